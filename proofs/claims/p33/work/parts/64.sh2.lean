theorem cH_0 {J : zA} {s : Int} (h : J (38 + 2 * s.toNat) 0 = 0) : cH J s = -1 := by unfold cH; rw [if_pos h]
theorem cH_1 {J : zA} {s : Int} (h : J (38 + 2 * s.toNat) 0 = 1) : cH J s = J (38 + 2 * s.toNat) 1 := by unfold cH; rw [if_neg (by omega), if_pos h]
theorem cH_2 {J : zA} {s : Int} (h : J (38 + 2 * s.toNat) 0 = 2) : cH J s = -2 - J (38 + 2 * s.toNat) 2 := by unfold cH; rw [if_neg (by omega), if_neg (by omega)]
theorem st_element_n {X : Nat × (Nat → Int32)} {d : Nat} {J M : zA} {R : zR} {s i : Int} (hr : Rel X J M R) (hs : -2147483648 ≤ s ∧ s < 2147483648) (hi : -2147483648 ≤ i ∧ i < 2147483648) (hs6 : ¬ (0 ≤ s ∧ s < 6)) : zW X (d + 20) 139 0 (gEn 139 [(.ref 0), (zi s), (zi i)]) [] J M R (stL X (d + 20) 253 [(zi s), (zi i)]) := by
  have hr0 := hr
  obtain ⟨hR, hG, hY, hD, hP, hC, hAc, hS, hTp, hX, hW⟩ := hr0
  have hRr : zRoR R := zRoR_of hR
  show zW _ _ _ _ [some (.ref 0), some (zi s), some (zi i)] _ _ _ _ _
  refine z_iload rfl rfl ?_
  refine z_callSi (As := [_]) (le := [some _]) rfl rfl (Nat.le_of_ble_eq_true rfl) (Nat.le_of_ble_eq_true rfl) rfl ?_
  refine z_iload rfl rfl ?_
  refine z_if_lt rfl (by omega) (fun h1 => ?_) (fun h1 => ?_)
  · refine z_pushI (z := 0) rfl rfl ?_
    refine z_bret rfl rfl (by decide) ?_
    show zW _ _ _ _ _ _ _ _ _ _
    refine z_if_eqT rfl (by decide) (by decide) ?_
    refine z_pushL (z := (-9223372036854775808)) rfl rfl ?_
    refine z_lret rfl rfl ?_
    refine ⟨_, rfl, ?_⟩
    show zW _ _ _ _ [some (.ref 50), some (zi s), some (zi i)] _ _ _ _ _
    refine z_aload rfl rfl ?_
    refine z_iload rfl rfl ?_
    refine z_iload rfl rfl ?_
    refine z_callVi (As := [_, _]) (le := [some _, some _, some _]) rfl rfl rfl (Nat.le_of_ble_eq_true rfl) (Nat.le_of_ble_eq_true rfl) rfl ?_
    refine z_iload rfl rfl ?_
    refine z_callSi (As := [_]) (le := [some _]) rfl rfl (Nat.le_of_ble_eq_true rfl) (Nat.le_of_ble_eq_true rfl) rfl ?_
    refine z_iload rfl rfl ?_
    refine z_pushI (z := 0) rfl rfl ?_
    refine z_pushI (z := 5) rfl rfl ?_
    refine z_callSi (As := [_, _, _]) (le := [some _, some _, some _]) rfl rfl (Nat.le_of_ble_eq_true rfl) (Nat.le_of_ble_eq_true rfl) rfl ?_
    refine z_iload rfl rfl ?_
    refine z_iload rfl rfl ?_
    refine z_icmp_ltT rfl (by omega) (by decide) (by omega) ?_
    refine z_pushI (z := 0) rfl rfl ?_
    refine z_bret rfl rfl (by decide) ?_
    show zW _ _ _ _ _ _ _ _ _ _
    refine z_bret rfl rfl (by decide) ?_
    show zW _ _ _ _ _ _ _ _ _ _
    refine z_if_neF rfl (by decide) (by decide) ?_
    refine z_pushI (z := (-1)) rfl rfl ?_
    refine z_iret rfl rfl ?_
    show zW _ _ _ _ _ _ _ _ _ _
    refine z_if_geF rfl (by decide) (by decide) ?_
    refine z_pushL (z := (-9223372036854775808)) rfl rfl ?_
    refine z_goto rfl ?_
    refine z_lret rfl rfl ?_
    refine ⟨?_, ?_⟩
    · first | rfl | exact congrArg (fun v => some (zl v)) (by omega) | (exfalso; omega)
    · exact hr
  · refine z_iload rfl rfl ?_
    refine z_pushI (z := 6) rfl rfl ?_
    refine z_icmp_geT rfl (by omega) (by decide) (by omega) ?_
    refine z_pushI (z := 0) rfl rfl ?_
    refine z_bret rfl rfl (by decide) ?_
    show zW _ _ _ _ _ _ _ _ _ _
    refine z_if_eqT rfl (by decide) (by decide) ?_
    refine z_pushL (z := (-9223372036854775808)) rfl rfl ?_
    refine z_lret rfl rfl ?_
    refine ⟨_, rfl, ?_⟩
    show zW _ _ _ _ [some (.ref 50), some (zi s), some (zi i)] _ _ _ _ _
    refine z_aload rfl rfl ?_
    refine z_iload rfl rfl ?_
    refine z_iload rfl rfl ?_
    refine z_callVi (As := [_, _]) (le := [some _, some _, some _]) rfl rfl rfl (Nat.le_of_ble_eq_true rfl) (Nat.le_of_ble_eq_true rfl) rfl ?_
    refine z_iload rfl rfl ?_
    refine z_callSi (As := [_]) (le := [some _]) rfl rfl (Nat.le_of_ble_eq_true rfl) (Nat.le_of_ble_eq_true rfl) rfl ?_
    refine z_iload rfl rfl ?_
    refine z_pushI (z := 0) rfl rfl ?_
    refine z_pushI (z := 5) rfl rfl ?_
    refine z_callSi (As := [_, _, _]) (le := [some _, some _, some _]) rfl rfl (Nat.le_of_ble_eq_true rfl) (Nat.le_of_ble_eq_true rfl) rfl ?_
    refine z_iload rfl rfl ?_
    refine z_iload rfl rfl ?_
    refine z_icmp_ltF rfl (by omega) (by decide) (by omega) ?_
    refine z_iload rfl rfl ?_
    refine z_iload rfl rfl ?_
    refine z_icmp_gtT rfl (by omega) (by decide) (by omega) ?_
    refine z_pushI (z := 0) rfl rfl ?_
    refine z_bret rfl rfl (by decide) ?_
    show zW _ _ _ _ _ _ _ _ _ _
    refine z_bret rfl rfl (by decide) ?_
    show zW _ _ _ _ _ _ _ _ _ _
    refine z_if_neF rfl (by decide) (by decide) ?_
    refine z_pushI (z := (-1)) rfl rfl ?_
    refine z_iret rfl rfl ?_
    show zW _ _ _ _ _ _ _ _ _ _
    refine z_if_geF rfl (by decide) (by decide) ?_
    refine z_pushL (z := (-9223372036854775808)) rfl rfl ?_
    refine z_goto rfl ?_
    refine z_lret rfl rfl ?_
    refine ⟨?_, ?_⟩
    · first | rfl | exact congrArg (fun v => some (zl v)) (by omega) | (exfalso; omega)
    · exact hr
theorem st_put_n {X : Nat × (Nat → Int32)} {d : Nat} {J M : zA} {R : zR} {s i v : Int} (hr : Rel X J M R) (hs : -2147483648 ≤ s ∧ s < 2147483648) (hi : -2147483648 ≤ i ∧ i < 2147483648) (hv : -9223372036854775808 ≤ v ∧ v < 9223372036854775808) (hs6 : ¬ (0 ≤ s ∧ s < 6)) : zW X (d + 20) 138 0 (gEn 138 [(.ref 0), (zi s), (zi i), (zl v)]) [] J M R (stP X (d + 20) 252 [(zi s), (zi i), (zl v)]) := by
  have hr0 := hr
  obtain ⟨hR, hG, hY, hD, hP, hC, hAc, hS, hTp, hX, hW⟩ := hr0
  have hRr : zRoR R := zRoR_of hR
  show zW _ _ _ _ [some (.ref 0), some (zi s), some (zi i), some (zl v), none, none] _ _ _ _ _
  refine z_iload rfl rfl ?_
  refine z_callSi (As := [_]) (le := [some _]) rfl rfl (Nat.le_of_ble_eq_true rfl) (Nat.le_of_ble_eq_true rfl) rfl ?_
  refine z_iload rfl rfl ?_
  refine z_if_lt rfl (by omega) (fun h1 => ?_) (fun h1 => ?_)
  · refine z_pushI (z := 0) rfl rfl ?_
    refine z_bret rfl rfl (by decide) ?_
    show zW _ _ _ _ _ _ _ _ _ _
    refine z_if_neF rfl (by decide) (by decide) ?_
    refine z_pushI (z := (-1)) rfl rfl ?_
    refine z_iret rfl rfl ?_
    refine ⟨_, rfl, ?_⟩
    show zW _ _ _ _ [some (.ref 50), some (zi s), some (zi i), some (zl v), none, none, none] _ _ _ _ _
    refine z_aload rfl rfl ?_
    refine z_iload rfl rfl ?_
    refine z_iload rfl rfl ?_
    refine z_callVi (As := [_, _]) (le := [some _, some _, some _]) rfl rfl rfl (Nat.le_of_ble_eq_true rfl) (Nat.le_of_ble_eq_true rfl) rfl ?_
    refine z_iload rfl rfl ?_
    refine z_callSi (As := [_]) (le := [some _]) rfl rfl (Nat.le_of_ble_eq_true rfl) (Nat.le_of_ble_eq_true rfl) rfl ?_
    refine z_iload rfl rfl ?_
    refine z_pushI (z := 0) rfl rfl ?_
    refine z_pushI (z := 5) rfl rfl ?_
    refine z_callSi (As := [_, _, _]) (le := [some _, some _, some _]) rfl rfl (Nat.le_of_ble_eq_true rfl) (Nat.le_of_ble_eq_true rfl) rfl ?_
    refine z_iload rfl rfl ?_
    refine z_iload rfl rfl ?_
    refine z_icmp_ltT rfl (by omega) (by decide) (by omega) ?_
    refine z_pushI (z := 0) rfl rfl ?_
    refine z_bret rfl rfl (by decide) ?_
    show zW _ _ _ _ _ _ _ _ _ _
    refine z_bret rfl rfl (by decide) ?_
    show zW _ _ _ _ _ _ _ _ _ _
    refine z_if_neF rfl (by decide) (by decide) ?_
    refine z_pushI (z := (-1)) rfl rfl ?_
    refine z_iret rfl rfl ?_
    show zW _ _ _ _ _ _ _ _ _ _
    refine z_istore rfl rfl ?_
    refine z_iload rfl rfl ?_
    refine z_if_geF rfl (by decide) (by decide) ?_
    refine z_iload rfl rfl ?_
    refine z_iret rfl rfl ?_
    refine ⟨?_, ?_⟩
    · first | rfl | exact congrArg (fun v => some (zi v)) (by omega) | (exfalso; omega)
    · exact hr
  · refine z_iload rfl rfl ?_
    refine z_pushI (z := 6) rfl rfl ?_
    refine z_icmp_geT rfl (by omega) (by decide) (by omega) ?_
    refine z_pushI (z := 0) rfl rfl ?_
    refine z_bret rfl rfl (by decide) ?_
    show zW _ _ _ _ _ _ _ _ _ _
    refine z_if_neF rfl (by decide) (by decide) ?_
    refine z_pushI (z := (-1)) rfl rfl ?_
    refine z_iret rfl rfl ?_
    refine ⟨_, rfl, ?_⟩
    show zW _ _ _ _ [some (.ref 50), some (zi s), some (zi i), some (zl v), none, none, none] _ _ _ _ _
    refine z_aload rfl rfl ?_
    refine z_iload rfl rfl ?_
    refine z_iload rfl rfl ?_
    refine z_callVi (As := [_, _]) (le := [some _, some _, some _]) rfl rfl rfl (Nat.le_of_ble_eq_true rfl) (Nat.le_of_ble_eq_true rfl) rfl ?_
    refine z_iload rfl rfl ?_
    refine z_callSi (As := [_]) (le := [some _]) rfl rfl (Nat.le_of_ble_eq_true rfl) (Nat.le_of_ble_eq_true rfl) rfl ?_
    refine z_iload rfl rfl ?_
    refine z_pushI (z := 0) rfl rfl ?_
    refine z_pushI (z := 5) rfl rfl ?_
    refine z_callSi (As := [_, _, _]) (le := [some _, some _, some _]) rfl rfl (Nat.le_of_ble_eq_true rfl) (Nat.le_of_ble_eq_true rfl) rfl ?_
    refine z_iload rfl rfl ?_
    refine z_iload rfl rfl ?_
    refine z_icmp_ltF rfl (by omega) (by decide) (by omega) ?_
    refine z_iload rfl rfl ?_
    refine z_iload rfl rfl ?_
    refine z_icmp_gtT rfl (by omega) (by decide) (by omega) ?_
    refine z_pushI (z := 0) rfl rfl ?_
    refine z_bret rfl rfl (by decide) ?_
    show zW _ _ _ _ _ _ _ _ _ _
    refine z_bret rfl rfl (by decide) ?_
    show zW _ _ _ _ _ _ _ _ _ _
    refine z_if_neF rfl (by decide) (by decide) ?_
    refine z_pushI (z := (-1)) rfl rfl ?_
    refine z_iret rfl rfl ?_
    show zW _ _ _ _ _ _ _ _ _ _
    refine z_istore rfl rfl ?_
    refine z_iload rfl rfl ?_
    refine z_if_geF rfl (by decide) (by decide) ?_
    refine z_iload rfl rfl ?_
    refine z_iret rfl rfl ?_
    refine ⟨?_, ?_⟩
    · first | rfl | exact congrArg (fun v => some (zi v)) (by omega) | (exfalso; omega)
    · exact hr
theorem st_element_00 {X : Nat × (Nat → Int32)} {d : Nat} {J M : zA} {R : zR} {i : Int} (hr : Rel X J M R) (hi : -2147483648 ≤ i ∧ i < 2147483648) (hh : J 38 0 = 0) : zW X (d + 20) 139 0 (gEn 139 [(.ref 0), (zi 0), (zi i)]) [] J M R (stL X (d + 20) 253 [(zi 0), (zi i)]) := by
  have hr0 := hr
  obtain ⟨hR, hG, hY, hD, hP, hC, hAc, hS, hTp, hX, hW⟩ := hr0
  have hRr : zRoR R := zRoR_of hR
  have hA0 := hAc
  obtain ⟨a1, a2, a3, a4, a5, a6⟩ := hA0
  have e83 : J 83 0 = -1 := (hS 0 (by decide) (by decide)).1.symm.trans (cH_0 hh)
  have s3 : 0 ≤ J 38 2 ∧ J 38 2 ≤ 4 := (hS 0 (by decide) (by decide)).2.2.1
  have s4 : 0 ≤ J 38 3 ∧ J 38 3 ≤ 60 := (hS 0 (by decide) (by decide)).2.2.2.1
  show zW _ _ _ _ [some (.ref 0), some (zi 0), some (zi i)] _ _ _ _ _
  refine z_iload rfl rfl ?_
  refine z_callSi (As := [_]) (le := [some _]) rfl rfl (Nat.le_of_ble_eq_true rfl) (Nat.le_of_ble_eq_true rfl) rfl ?_
  refine z_iload rfl rfl ?_
  refine z_if_ltF rfl (by decide) (by decide) ?_
  refine z_iload rfl rfl ?_
  refine z_pushI (z := 6) rfl rfl ?_
  refine z_icmp_geF rfl (by decide) (by decide) (by decide) ?_
  refine z_pushI (z := 1) rfl rfl ?_
  refine z_goto rfl ?_
  refine z_bret rfl rfl (by decide) ?_
  show zW _ _ _ _ _ _ _ _ _ _
  refine z_if_eqF rfl (by decide) (by decide) ?_
  refine z_aload rfl rfl ?_
  refine z_getR (r := 37) rfl rfl (hR _ rm_0_11) ?_
  refine z_iload rfl rfl ?_
  refine z_aald (r := 38) rfl rfl (by decide) (by decide) (hR _ rm_37_0) ?_
  refine z_iload rfl rfl ?_
  refine z_callVi (As := [_]) (le := [some _, some _]) rfl rfl rfl (Nat.le_of_ble_eq_true rfl) (Nat.le_of_ble_eq_true rfl) rfl ?_
  refine z_aload rfl rfl ?_
  refine z_getI (v := 0) rfl rfl (hh) ?_
  refine z_if_neF rfl (by decide) (by decide) ?_
  refine z_pushI (z := (-11)) rfl rfl ?_
  refine z_iret rfl rfl ?_
  show zW _ _ _ _ _ _ _ _ _ _
  refine z_if_geF rfl (by decide) (by decide) ?_
  refine z_pushL (z := (-9223372036854775808)) rfl rfl ?_
  refine z_lret rfl rfl ?_
  refine ⟨_, rfl, ?_⟩
  show zW _ _ _ _ [some (.ref 50), some (zi 0), some (zi i)] _ _ _ _ _
  refine z_aload rfl rfl ?_
  refine z_iload rfl rfl ?_
  refine z_iload rfl rfl ?_
  refine z_callVi (As := [_, _]) (le := [some _, some _, some _]) rfl rfl rfl (Nat.le_of_ble_eq_true rfl) (Nat.le_of_ble_eq_true rfl) rfl ?_
  refine z_iload rfl rfl ?_
  refine z_callSi (As := [_]) (le := [some _]) rfl rfl (Nat.le_of_ble_eq_true rfl) (Nat.le_of_ble_eq_true rfl) rfl ?_
  refine z_iload rfl rfl ?_
  refine z_pushI (z := 0) rfl rfl ?_
  refine z_pushI (z := 5) rfl rfl ?_
  refine z_callSi (As := [_, _, _]) (le := [some _, some _, some _]) rfl rfl (Nat.le_of_ble_eq_true rfl) (Nat.le_of_ble_eq_true rfl) rfl ?_
  refine z_iload rfl rfl ?_
  refine z_iload rfl rfl ?_
  refine z_icmp_ltF rfl (by decide) (by decide) (by decide) ?_
  refine z_iload rfl rfl ?_
  refine z_iload rfl rfl ?_
  refine z_icmp_gtF rfl (by decide) (by decide) (by decide) ?_
  refine z_pushI (z := 1) rfl rfl ?_
  refine z_goto rfl ?_
  refine z_bret rfl rfl (by decide) ?_
  show zW _ _ _ _ _ _ _ _ _ _
  refine z_bret rfl rfl (by decide) ?_
  show zW _ _ _ _ _ _ _ _ _ _
  refine z_if_neT rfl (by decide) (by decide) ?_
  refine z_aload rfl rfl ?_
  refine z_getR (r := 83) rfl rfl (hRr _ rm_50_58 (by decide)) ?_
  refine z_iload rfl rfl ?_
  refine z_iald (v := (-1)) rfl rfl (by decide) (by decide) (e83) ?_
  refine z_pushI (z := (-1)) rfl rfl ?_
  refine z_icmp_neF rfl (by decide) (by decide) (by decide) ?_
  refine z_pushI (z := (-11)) rfl rfl ?_
  refine z_iret rfl rfl ?_
  show zW _ _ _ _ _ _ _ _ _ _
  refine z_if_geF rfl (by decide) (by decide) ?_
  refine z_pushL (z := (-9223372036854775808)) rfl rfl ?_
  refine z_goto rfl ?_
  refine z_lret rfl rfl ?_
  refine ⟨?_, ?_⟩
  · first | rfl | exact congrArg (fun v => some (zl v)) (by omega) | (exfalso; omega)
  · exact hr
theorem st_put_00 {X : Nat × (Nat → Int32)} {d : Nat} {J M : zA} {R : zR} {i v : Int} (hr : Rel X J M R) (hi : -2147483648 ≤ i ∧ i < 2147483648) (hv : -9223372036854775808 ≤ v ∧ v < 9223372036854775808) (hh : J 38 0 = 0) : zW X (d + 20) 138 0 (gEn 138 [(.ref 0), (zi 0), (zi i), (zl v)]) [] J M R (stP X (d + 20) 252 [(zi 0), (zi i), (zl v)]) := by
  have hr0 := hr
  obtain ⟨hR, hG, hY, hD, hP, hC, hAc, hS, hTp, hX, hW⟩ := hr0
  have hRr : zRoR R := zRoR_of hR
  have hA0 := hAc
  obtain ⟨a1, a2, a3, a4, a5, a6⟩ := hA0
  have e83 : J 83 0 = -1 := (hS 0 (by decide) (by decide)).1.symm.trans (cH_0 hh)
  have s3 : 0 ≤ J 38 2 ∧ J 38 2 ≤ 4 := (hS 0 (by decide) (by decide)).2.2.1
  have s4 : 0 ≤ J 38 3 ∧ J 38 3 ≤ 60 := (hS 0 (by decide) (by decide)).2.2.2.1
  show zW _ _ _ _ [some (.ref 0), some (zi 0), some (zi i), some (zl v), none, none] _ _ _ _ _
  refine z_iload rfl rfl ?_
  refine z_callSi (As := [_]) (le := [some _]) rfl rfl (Nat.le_of_ble_eq_true rfl) (Nat.le_of_ble_eq_true rfl) rfl ?_
  refine z_iload rfl rfl ?_
  refine z_if_ltF rfl (by decide) (by decide) ?_
  refine z_iload rfl rfl ?_
  refine z_pushI (z := 6) rfl rfl ?_
  refine z_icmp_geF rfl (by decide) (by decide) (by decide) ?_
  refine z_pushI (z := 1) rfl rfl ?_
  refine z_goto rfl ?_
  refine z_bret rfl rfl (by decide) ?_
  show zW _ _ _ _ _ _ _ _ _ _
  refine z_if_neT rfl (by decide) (by decide) ?_
  refine z_aload rfl rfl ?_
  refine z_getR (r := 37) rfl rfl (hR _ rm_0_11) ?_
  refine z_iload rfl rfl ?_
  refine z_aald (r := 38) rfl rfl (by decide) (by decide) (hR _ rm_37_0) ?_
  refine z_iload rfl rfl ?_
  refine z_callVi (As := [_]) (le := [some _, some _]) rfl rfl rfl (Nat.le_of_ble_eq_true rfl) (Nat.le_of_ble_eq_true rfl) rfl ?_
  refine z_aload rfl rfl ?_
  refine z_getI (v := 0) rfl rfl (hh) ?_
  refine z_if_neF rfl (by decide) (by decide) ?_
  refine z_pushI (z := (-11)) rfl rfl ?_
  refine z_iret rfl rfl ?_
  show zW _ _ _ _ _ _ _ _ _ _
  refine z_istore rfl rfl ?_
  refine z_iload rfl rfl ?_
  refine z_if_geF rfl (by decide) (by decide) ?_
  refine z_iload rfl rfl ?_
  refine z_iret rfl rfl ?_
  refine ⟨_, rfl, ?_⟩
  show zW _ _ _ _ [some (.ref 50), some (zi 0), some (zi i), some (zl v), none, none, none] _ _ _ _ _
  refine z_aload rfl rfl ?_
  refine z_iload rfl rfl ?_
  refine z_iload rfl rfl ?_
  refine z_callVi (As := [_, _]) (le := [some _, some _, some _]) rfl rfl rfl (Nat.le_of_ble_eq_true rfl) (Nat.le_of_ble_eq_true rfl) rfl ?_
  refine z_iload rfl rfl ?_
  refine z_callSi (As := [_]) (le := [some _]) rfl rfl (Nat.le_of_ble_eq_true rfl) (Nat.le_of_ble_eq_true rfl) rfl ?_
  refine z_iload rfl rfl ?_
  refine z_pushI (z := 0) rfl rfl ?_
  refine z_pushI (z := 5) rfl rfl ?_
  refine z_callSi (As := [_, _, _]) (le := [some _, some _, some _]) rfl rfl (Nat.le_of_ble_eq_true rfl) (Nat.le_of_ble_eq_true rfl) rfl ?_
  refine z_iload rfl rfl ?_
  refine z_iload rfl rfl ?_
  refine z_icmp_ltF rfl (by decide) (by decide) (by decide) ?_
  refine z_iload rfl rfl ?_
  refine z_iload rfl rfl ?_
  refine z_icmp_gtF rfl (by decide) (by decide) (by decide) ?_
  refine z_pushI (z := 1) rfl rfl ?_
  refine z_goto rfl ?_
  refine z_bret rfl rfl (by decide) ?_
  show zW _ _ _ _ _ _ _ _ _ _
  refine z_bret rfl rfl (by decide) ?_
  show zW _ _ _ _ _ _ _ _ _ _
  refine z_if_neT rfl (by decide) (by decide) ?_
  refine z_aload rfl rfl ?_
  refine z_getR (r := 83) rfl rfl (hRr _ rm_50_58 (by decide)) ?_
  refine z_iload rfl rfl ?_
  refine z_iald (v := (-1)) rfl rfl (by decide) (by decide) (e83) ?_
  refine z_pushI (z := (-1)) rfl rfl ?_
  refine z_icmp_neF rfl (by decide) (by decide) (by decide) ?_
  refine z_pushI (z := (-11)) rfl rfl ?_
  refine z_iret rfl rfl ?_
  show zW _ _ _ _ _ _ _ _ _ _
  refine z_istore rfl rfl ?_
  refine z_iload rfl rfl ?_
  refine z_if_geF rfl (by decide) (by decide) ?_
  refine z_iload rfl rfl ?_
  refine z_iret rfl rfl ?_
  refine ⟨?_, ?_⟩
  · first | rfl | exact congrArg (fun v => some (zi v)) (by omega) | (exfalso; omega)
  · exact hr
theorem st_element_01 {X : Nat × (Nat → Int32)} {d : Nat} {J M : zA} {R : zR} {i : Int} (hr : Rel X J M R) (hi : -2147483648 ≤ i ∧ i < 2147483648) (hh : J 38 0 = 1) : zW X (d + 20) 139 0 (gEn 139 [(.ref 0), (zi 0), (zi i)]) [] J M R (stL X (d + 20) 253 [(zi 0), (zi i)]) := by
  have hr0 := hr
  obtain ⟨hR, hG, hY, hD, hP, hC, hAc, hS, hTp, hX, hW⟩ := hr0
  have hRr : zRoR R := zRoR_of hR
  have hA0 := hAc
  obtain ⟨a1, a2, a3, a4, a5, a6⟩ := hA0
  have e83 : J 83 0 = J 38 1 := (hS 0 (by decide) (by decide)).1.symm.trans (cH_1 hh)
  have s3 : 0 ≤ J 38 2 ∧ J 38 2 ≤ 4 := (hS 0 (by decide) (by decide)).2.2.1
  have s4 : 0 ≤ J 38 3 ∧ J 38 3 ≤ 60 := (hS 0 (by decide) (by decide)).2.2.2.1
  have s5 : 0 ≤ J 38 1 ∧ J 38 1 < J 34 1 := (hS 0 (by decide) (by decide)).2.2.2.2.1 hh
  show zW _ _ _ _ [some (.ref 0), some (zi 0), some (zi i)] _ _ _ _ _
  refine z_iload rfl rfl ?_
  refine z_callSi (As := [_]) (le := [some _]) rfl rfl (Nat.le_of_ble_eq_true rfl) (Nat.le_of_ble_eq_true rfl) rfl ?_
  refine z_iload rfl rfl ?_
  refine z_if_ltF rfl (by decide) (by decide) ?_
  refine z_iload rfl rfl ?_
  refine z_pushI (z := 6) rfl rfl ?_
  refine z_icmp_geF rfl (by decide) (by decide) (by decide) ?_
  refine z_pushI (z := 1) rfl rfl ?_
  refine z_goto rfl ?_
  refine z_bret rfl rfl (by decide) ?_
  show zW _ _ _ _ _ _ _ _ _ _
  refine z_if_eqF rfl (by decide) (by decide) ?_
  refine z_aload rfl rfl ?_
  refine z_getR (r := 37) rfl rfl (hR _ rm_0_11) ?_
  refine z_iload rfl rfl ?_
  refine z_aald (r := 38) rfl rfl (by decide) (by decide) (hR _ rm_37_0) ?_
  refine z_iload rfl rfl ?_
  refine z_callVi (As := [_]) (le := [some _, some _]) rfl rfl rfl (Nat.le_of_ble_eq_true rfl) (Nat.le_of_ble_eq_true rfl) rfl ?_
  refine z_aload rfl rfl ?_
  refine z_getI (v := 1) rfl rfl (hh) ?_
  refine z_if_neT rfl (by decide) (by decide) ?_
  refine z_aload rfl rfl ?_
  refine z_getI (v := 1) rfl rfl (hh) ?_
  refine z_pushI (z := 2) rfl rfl ?_
  refine z_icmp_eqF rfl (by decide) (by decide) (by decide) ?_
  refine z_pushI (z := (-12)) rfl rfl ?_
  refine z_iret rfl rfl ?_
  show zW _ _ _ _ _ _ _ _ _ _
  refine z_if_geF rfl (by decide) (by decide) ?_
  refine z_pushL (z := (-9223372036854775808)) rfl rfl ?_
  refine z_lret rfl rfl ?_
  refine ⟨_, rfl, ?_⟩
  show zW _ _ _ _ [some (.ref 50), some (zi 0), some (zi i)] _ _ _ _ _
  refine z_aload rfl rfl ?_
  refine z_iload rfl rfl ?_
  refine z_iload rfl rfl ?_
  refine z_callVi (As := [_, _]) (le := [some _, some _, some _]) rfl rfl rfl (Nat.le_of_ble_eq_true rfl) (Nat.le_of_ble_eq_true rfl) rfl ?_
  refine z_iload rfl rfl ?_
  refine z_callSi (As := [_]) (le := [some _]) rfl rfl (Nat.le_of_ble_eq_true rfl) (Nat.le_of_ble_eq_true rfl) rfl ?_
  refine z_iload rfl rfl ?_
  refine z_pushI (z := 0) rfl rfl ?_
  refine z_pushI (z := 5) rfl rfl ?_
  refine z_callSi (As := [_, _, _]) (le := [some _, some _, some _]) rfl rfl (Nat.le_of_ble_eq_true rfl) (Nat.le_of_ble_eq_true rfl) rfl ?_
  refine z_iload rfl rfl ?_
  refine z_iload rfl rfl ?_
  refine z_icmp_ltF rfl (by decide) (by decide) (by decide) ?_
  refine z_iload rfl rfl ?_
  refine z_iload rfl rfl ?_
  refine z_icmp_gtF rfl (by decide) (by decide) (by decide) ?_
  refine z_pushI (z := 1) rfl rfl ?_
  refine z_goto rfl ?_
  refine z_bret rfl rfl (by decide) ?_
  show zW _ _ _ _ _ _ _ _ _ _
  refine z_bret rfl rfl (by decide) ?_
  show zW _ _ _ _ _ _ _ _ _ _
  refine z_if_neT rfl (by decide) (by decide) ?_
  refine z_aload rfl rfl ?_
  refine z_getR (r := 83) rfl rfl (hRr _ rm_50_58 (by decide)) ?_
  refine z_iload rfl rfl ?_
  refine z_iald (v := J 38 1) rfl rfl (by decide) (by decide) (e83) ?_
  refine z_pushI (z := (-1)) rfl rfl ?_
  refine z_icmp_ne rfl (by omega) (by decide) (fun h1 => ?_) (fun h1 => ?_)
  · refine z_aload rfl rfl ?_
    refine z_getR (r := 83) rfl rfl (hRr _ rm_50_58 (by decide)) ?_
    refine z_iload rfl rfl ?_
    refine z_iald (v := J 38 1) rfl rfl (by decide) (by decide) (e83) ?_
    refine z_if_lt rfl (by omega) (fun h2 => ?_) (fun h2 => ?_)
    · refine z_iload rfl rfl ?_
      refine z_pushI (z := 0) rfl rfl ?_
      refine z_aload rfl rfl ?_
      refine z_getR (r := 84) rfl rfl (hRr _ rm_50_59 (by decide)) ?_
      refine z_iload rfl rfl ?_
      refine z_iald (v := J 84 0) rfl rfl (by decide) (by decide) (rfl) ?_
      refine z_pushI (z := 1) rfl rfl ?_
      refine z_isub (e := (J 84 0) - 1) rfl rfl ?_
      refine z_callSi (As := [_, _, _]) (le := [some _, some _, some _]) rfl rfl (Nat.le_of_ble_eq_true rfl) (Nat.le_of_ble_eq_true rfl) rfl ?_
      refine z_iload rfl rfl ?_
      refine z_iload rfl rfl ?_
      refine z_icmp_lt rfl (by omega) (by decide) (fun h3 => ?_) (fun h3 => ?_)
      · refine z_pushI (z := 0) rfl rfl ?_
        refine z_bret rfl rfl (by decide) ?_
        show zW _ _ _ _ _ _ _ _ _ _
        refine z_if_eqT rfl (by decide) (by decide) ?_
        refine z_pushI (z := (-13)) rfl rfl ?_
        refine z_iret rfl rfl ?_
        show zW _ _ _ _ _ _ _ _ _ _
        refine z_if_geF rfl (by decide) (by decide) ?_
        refine z_pushL (z := (-9223372036854775808)) rfl rfl ?_
        refine z_goto rfl ?_
        refine z_lret rfl rfl ?_
        refine ⟨?_, ?_⟩
        · first | rfl | exact congrArg (fun v => some (zl v)) (by omega) | (exfalso; omega)
        · exact hr
      · refine z_iload rfl rfl ?_
        refine z_iload rfl rfl ?_
        refine z_icmp_gt rfl (by omega) (by omega) (fun h4 => ?_) (fun h4 => ?_)
        · refine z_pushI (z := 0) rfl rfl ?_
          refine z_bret rfl rfl (by decide) ?_
          show zW _ _ _ _ _ _ _ _ _ _
          refine z_if_eqT rfl (by decide) (by decide) ?_
          refine z_pushI (z := (-13)) rfl rfl ?_
          refine z_iret rfl rfl ?_
          show zW _ _ _ _ _ _ _ _ _ _
          refine z_if_geF rfl (by decide) (by decide) ?_
          refine z_pushL (z := (-9223372036854775808)) rfl rfl ?_
          refine z_goto rfl ?_
          refine z_lret rfl rfl ?_
          refine ⟨?_, ?_⟩
          · first | rfl | exact congrArg (fun v => some (zl v)) (by omega) | (exfalso; omega)
          · exact hr
        · refine z_pushI (z := 1) rfl rfl ?_
          refine z_goto rfl ?_
          refine z_bret rfl rfl (by decide) ?_
          show zW _ _ _ _ _ _ _ _ _ _
          refine z_if_eqF rfl (by decide) (by decide) ?_
          refine z_pushI (z := 0) rfl rfl ?_
          refine z_goto rfl ?_
          refine z_iret rfl rfl ?_
          show zW _ _ _ _ _ _ _ _ _ _
          refine z_if_geT rfl (by decide) (by decide) ?_
          refine z_aload rfl rfl ?_
          refine z_getR (r := 85) rfl rfl (hRr _ rm_50_60 (by decide)) ?_
          refine z_pushI (z := 60) rfl rfl ?_
          refine z_iload rfl rfl ?_
          refine z_imul (e := 0) rfl rfl ?_
          refine z_iload rfl rfl ?_
          refine z_iadd (e := 0 + i) rfl rfl ?_
          refine z_lald (v := M 85 (0 + i)) rfl rfl (by decide) (by omega) (rfl) ?_
          refine z_lret rfl rfl ?_
          refine ⟨?_, ?_⟩
          · first | rfl | exact congrArg (fun v => some (zl v)) (by omega) | (exfalso; omega)
          · exact hr
    · refine z_pushI (z := (-12)) rfl rfl ?_
      refine z_iret rfl rfl ?_
      show zW _ _ _ _ _ _ _ _ _ _
      refine z_if_geF rfl (by decide) (by decide) ?_
      refine z_pushL (z := (-9223372036854775808)) rfl rfl ?_
      refine z_goto rfl ?_
      refine z_lret rfl rfl ?_
      refine ⟨?_, ?_⟩
      · first | rfl | exact congrArg (fun v => some (zl v)) (by omega) | (exfalso; omega)
      · exact hr
  · refine z_pushI (z := (-11)) rfl rfl ?_
    refine z_iret rfl rfl ?_
    show zW _ _ _ _ _ _ _ _ _ _
    refine z_if_geF rfl (by decide) (by decide) ?_
    refine z_pushL (z := (-9223372036854775808)) rfl rfl ?_
    refine z_goto rfl ?_
    refine z_lret rfl rfl ?_
    refine ⟨?_, ?_⟩
    · first | rfl | exact congrArg (fun v => some (zl v)) (by omega) | (exfalso; omega)
    · exact hr
theorem st_put_01 {X : Nat × (Nat → Int32)} {d : Nat} {J M : zA} {R : zR} {i v : Int} (hr : Rel X J M R) (hi : -2147483648 ≤ i ∧ i < 2147483648) (hv : -9223372036854775808 ≤ v ∧ v < 9223372036854775808) (hh : J 38 0 = 1) : zW X (d + 20) 138 0 (gEn 138 [(.ref 0), (zi 0), (zi i), (zl v)]) [] J M R (stP X (d + 20) 252 [(zi 0), (zi i), (zl v)]) := by
  have hr0 := hr
  obtain ⟨hR, hG, hY, hD, hP, hC, hAc, hS, hTp, hX, hW⟩ := hr0
  have hRr : zRoR R := zRoR_of hR
  have hA0 := hAc
  obtain ⟨a1, a2, a3, a4, a5, a6⟩ := hA0
  have e83 : J 83 0 = J 38 1 := (hS 0 (by decide) (by decide)).1.symm.trans (cH_1 hh)
  have s3 : 0 ≤ J 38 2 ∧ J 38 2 ≤ 4 := (hS 0 (by decide) (by decide)).2.2.1
  have s4 : 0 ≤ J 38 3 ∧ J 38 3 ≤ 60 := (hS 0 (by decide) (by decide)).2.2.2.1
  have s5 : 0 ≤ J 38 1 ∧ J 38 1 < J 34 1 := (hS 0 (by decide) (by decide)).2.2.2.2.1 hh
  show zW _ _ _ _ [some (.ref 0), some (zi 0), some (zi i), some (zl v), none, none] _ _ _ _ _
  refine z_iload rfl rfl ?_
  refine z_callSi (As := [_]) (le := [some _]) rfl rfl (Nat.le_of_ble_eq_true rfl) (Nat.le_of_ble_eq_true rfl) rfl ?_
  refine z_iload rfl rfl ?_
  refine z_if_ltF rfl (by decide) (by decide) ?_
  refine z_iload rfl rfl ?_
  refine z_pushI (z := 6) rfl rfl ?_
  refine z_icmp_geF rfl (by decide) (by decide) (by decide) ?_
  refine z_pushI (z := 1) rfl rfl ?_
  refine z_goto rfl ?_
  refine z_bret rfl rfl (by decide) ?_
  show zW _ _ _ _ _ _ _ _ _ _
  refine z_if_neT rfl (by decide) (by decide) ?_
  refine z_aload rfl rfl ?_
  refine z_getR (r := 37) rfl rfl (hR _ rm_0_11) ?_
  refine z_iload rfl rfl ?_
  refine z_aald (r := 38) rfl rfl (by decide) (by decide) (hR _ rm_37_0) ?_
  refine z_iload rfl rfl ?_
  refine z_callVi (As := [_]) (le := [some _, some _]) rfl rfl rfl (Nat.le_of_ble_eq_true rfl) (Nat.le_of_ble_eq_true rfl) rfl ?_
  refine z_aload rfl rfl ?_
  refine z_getI (v := 1) rfl rfl (hh) ?_
  refine z_if_neT rfl (by decide) (by decide) ?_
  refine z_aload rfl rfl ?_
  refine z_getI (v := 1) rfl rfl (hh) ?_
  refine z_pushI (z := 2) rfl rfl ?_
  refine z_icmp_eqF rfl (by decide) (by decide) (by decide) ?_
  refine z_pushI (z := (-12)) rfl rfl ?_
  refine z_iret rfl rfl ?_
  show zW _ _ _ _ _ _ _ _ _ _
  refine z_istore rfl rfl ?_
  refine z_iload rfl rfl ?_
  refine z_if_geF rfl (by decide) (by decide) ?_
  refine z_iload rfl rfl ?_
  refine z_iret rfl rfl ?_
  refine ⟨_, rfl, ?_⟩
  show zW _ _ _ _ [some (.ref 50), some (zi 0), some (zi i), some (zl v), none, none, none] _ _ _ _ _
  refine z_aload rfl rfl ?_
  refine z_iload rfl rfl ?_
  refine z_iload rfl rfl ?_
  refine z_callVi (As := [_, _]) (le := [some _, some _, some _]) rfl rfl rfl (Nat.le_of_ble_eq_true rfl) (Nat.le_of_ble_eq_true rfl) rfl ?_
  refine z_iload rfl rfl ?_
  refine z_callSi (As := [_]) (le := [some _]) rfl rfl (Nat.le_of_ble_eq_true rfl) (Nat.le_of_ble_eq_true rfl) rfl ?_
  refine z_iload rfl rfl ?_
  refine z_pushI (z := 0) rfl rfl ?_
  refine z_pushI (z := 5) rfl rfl ?_
  refine z_callSi (As := [_, _, _]) (le := [some _, some _, some _]) rfl rfl (Nat.le_of_ble_eq_true rfl) (Nat.le_of_ble_eq_true rfl) rfl ?_
  refine z_iload rfl rfl ?_
  refine z_iload rfl rfl ?_
  refine z_icmp_ltF rfl (by decide) (by decide) (by decide) ?_
  refine z_iload rfl rfl ?_
  refine z_iload rfl rfl ?_
  refine z_icmp_gtF rfl (by decide) (by decide) (by decide) ?_
  refine z_pushI (z := 1) rfl rfl ?_
  refine z_goto rfl ?_
  refine z_bret rfl rfl (by decide) ?_
  show zW _ _ _ _ _ _ _ _ _ _
  refine z_bret rfl rfl (by decide) ?_
  show zW _ _ _ _ _ _ _ _ _ _
  refine z_if_neT rfl (by decide) (by decide) ?_
  refine z_aload rfl rfl ?_
  refine z_getR (r := 83) rfl rfl (hRr _ rm_50_58 (by decide)) ?_
  refine z_iload rfl rfl ?_
  refine z_iald (v := J 38 1) rfl rfl (by decide) (by decide) (e83) ?_
  refine z_pushI (z := (-1)) rfl rfl ?_
  refine z_icmp_ne rfl (by omega) (by decide) (fun h1 => ?_) (fun h1 => ?_)
  · refine z_aload rfl rfl ?_
    refine z_getR (r := 83) rfl rfl (hRr _ rm_50_58 (by decide)) ?_
    refine z_iload rfl rfl ?_
    refine z_iald (v := J 38 1) rfl rfl (by decide) (by decide) (e83) ?_
    refine z_if_lt rfl (by omega) (fun h2 => ?_) (fun h2 => ?_)
    · refine z_iload rfl rfl ?_
      refine z_pushI (z := 0) rfl rfl ?_
      refine z_aload rfl rfl ?_
      refine z_getR (r := 84) rfl rfl (hRr _ rm_50_59 (by decide)) ?_
      refine z_iload rfl rfl ?_
      refine z_iald (v := J 84 0) rfl rfl (by decide) (by decide) (rfl) ?_
      refine z_pushI (z := 1) rfl rfl ?_
      refine z_isub (e := (J 84 0) - 1) rfl rfl ?_
      refine z_callSi (As := [_, _, _]) (le := [some _, some _, some _]) rfl rfl (Nat.le_of_ble_eq_true rfl) (Nat.le_of_ble_eq_true rfl) rfl ?_
      refine z_iload rfl rfl ?_
      refine z_iload rfl rfl ?_
      refine z_icmp_lt rfl (by omega) (by decide) (fun h3 => ?_) (fun h3 => ?_)
      · refine z_pushI (z := 0) rfl rfl ?_
        refine z_bret rfl rfl (by decide) ?_
        show zW _ _ _ _ _ _ _ _ _ _
        refine z_if_eqT rfl (by decide) (by decide) ?_
        refine z_pushI (z := (-13)) rfl rfl ?_
        refine z_iret rfl rfl ?_
        show zW _ _ _ _ _ _ _ _ _ _
        refine z_istore rfl rfl ?_
        refine z_iload rfl rfl ?_
        refine z_if_geF rfl (by decide) (by decide) ?_
        refine z_iload rfl rfl ?_
        refine z_iret rfl rfl ?_
        refine ⟨?_, ?_⟩
        · first | rfl | exact congrArg (fun v => some (zi v)) (by omega) | (exfalso; omega)
        · exact hr
      · refine z_iload rfl rfl ?_
        refine z_iload rfl rfl ?_
        refine z_icmp_gt rfl (by omega) (by omega) (fun h4 => ?_) (fun h4 => ?_)
        · refine z_pushI (z := 0) rfl rfl ?_
          refine z_bret rfl rfl (by decide) ?_
          show zW _ _ _ _ _ _ _ _ _ _
          refine z_if_eqT rfl (by decide) (by decide) ?_
          refine z_pushI (z := (-13)) rfl rfl ?_
          refine z_iret rfl rfl ?_
          show zW _ _ _ _ _ _ _ _ _ _
          refine z_istore rfl rfl ?_
          refine z_iload rfl rfl ?_
          refine z_if_geF rfl (by decide) (by decide) ?_
          refine z_iload rfl rfl ?_
          refine z_iret rfl rfl ?_
          refine ⟨?_, ?_⟩
          · first | rfl | exact congrArg (fun v => some (zi v)) (by omega) | (exfalso; omega)
          · exact hr
        · refine z_pushI (z := 1) rfl rfl ?_
          refine z_goto rfl ?_
          refine z_bret rfl rfl (by decide) ?_
          show zW _ _ _ _ _ _ _ _ _ _
          refine z_if_eqF rfl (by decide) (by decide) ?_
          refine z_pushI (z := 0) rfl rfl ?_
          refine z_goto rfl ?_
          refine z_iret rfl rfl ?_
          show zW _ _ _ _ _ _ _ _ _ _
          refine z_istore rfl rfl ?_
          refine z_iload rfl rfl ?_
          refine z_if_geT rfl (by decide) (by decide) ?_
          refine z_pushI (z := (-2)) rfl rfl ?_
          refine z_aload rfl rfl ?_
          refine z_getR (r := 83) rfl rfl (hRr _ rm_50_58 (by decide)) ?_
          refine z_iload rfl rfl ?_
          refine z_iald (v := J 38 1) rfl rfl (by decide) (by decide) (e83) ?_
          refine z_isub (e := (-2) - (J 38 1)) rfl rfl ?_
          refine z_istore rfl rfl ?_
          refine z_aload rfl rfl ?_
          refine z_getR (r := 85) rfl rfl (hRr _ rm_50_60 (by decide)) ?_
          refine z_pushI (z := 60) rfl rfl ?_
          refine z_iload rfl rfl ?_
          refine z_imul (e := 0) rfl rfl ?_
          refine z_iload rfl rfl ?_
          refine z_iadd (e := 0 + i) rfl rfl ?_
          refine z_iload rfl rfl ?_
          refine z_if_ne rfl (by omega) (fun h5 => ?_) (fun h5 => ?_)
          · refine z_iload rfl rfl ?_
            refine z_pushI (z := 1) rfl rfl ?_
            refine z_icmp_ne rfl (by omega) (by decide) (fun h6 => ?_) (fun h6 => ?_)
            · refine z_iload rfl rfl ?_
              refine z_pushI (z := 2) rfl rfl ?_
              refine z_icmp_ne rfl (by omega) (by decide) (fun h7 => ?_) (fun h7 => ?_)
              · refine z_iload rfl rfl ?_
                refine z_pushI (z := 3) rfl rfl ?_
                refine z_icmp_ne rfl (by omega) (by decide) (fun h8 => ?_) (fun h8 => ?_)
                · refine z_lload rfl rfl ?_
                  refine z_pushL (z := 0) rfl rfl ?_
                  refine z_lcmp_eq rfl rfl (by omega) (by omega) (fun h9 => ?_) (fun h9 => ?_)
                  · refine z_pushL (z := 0) rfl rfl ?_
                    refine z_last (e := 0) rfl rfl (by decide) (by omega) rfl ?_
                    refine z_pushI (z := 1) rfl rfl ?_
                    refine z_iret rfl rfl ?_
                    refine ⟨?_, ?_⟩
                    · first | rfl | exact congrArg (fun v => some (zi v)) (by omega) | (exfalso; omega)
                    · exfalso
                      omega
                  · refine z_pushL (z := 1) rfl rfl ?_
                    refine z_goto rfl ?_
                    refine z_last (e := 1) rfl rfl (by decide) (by omega) rfl ?_
                    refine z_pushI (z := 1) rfl rfl ?_
                    refine z_iret rfl rfl ?_
                    refine ⟨?_, ?_⟩
                    · first | rfl | exact congrArg (fun v => some (zi v)) (by omega) | (exfalso; omega)
                    · exfalso
                      omega
                · refine z_lload rfl rfl ?_
                  refine z_goto rfl ?_
                  refine z_last (e := v) rfl rfl (by decide) (by omega) rfl ?_
                  refine z_pushI (z := 1) rfl rfl ?_
                  refine z_iret rfl rfl ?_
                  refine ⟨?_, ?_⟩
                  · first | rfl | exact congrArg (fun v => some (zi v)) (by omega) | (exfalso; omega)
                  · exfalso
                    omega
              · refine z_lload rfl rfl ?_
                refine z_l2i rfl ?_
                refine z_topn (e := zn v) rfl ?_
                have q10 := zn_r v
                refine z_i2l rfl (by omega) ?_
                refine z_goto rfl ?_
                refine z_last (e := zn v) rfl rfl (by decide) (by omega) rfl ?_
                refine z_pushI (z := 1) rfl rfl ?_
                refine z_iret rfl rfl ?_
                refine ⟨?_, ?_⟩
                · first | rfl | exact congrArg (fun v => some (zi v)) (by omega) | (exfalso; omega)
                · exfalso
                  omega
            · refine z_lload rfl rfl ?_
              refine z_l2i rfl ?_
              refine z_i2s (e := zh v) rfl rfl ?_
              have q11 := zh_r v
              refine z_i2l rfl (by omega) ?_
              refine z_goto rfl ?_
              refine z_last (e := zh v) rfl rfl (by decide) (by omega) rfl ?_
              refine z_pushI (z := 1) rfl rfl ?_
              refine z_iret rfl rfl ?_
              refine ⟨?_, ?_⟩
              · first | rfl | exact congrArg (fun v => some (zi v)) (by omega) | (exfalso; omega)
              · exfalso
                omega
          · refine z_lload rfl rfl ?_
            refine z_l2i rfl ?_
            refine z_i2b (e := zb v) rfl rfl ?_
            have q12 := zb_r v
            refine z_i2l rfl (by omega) ?_
            refine z_goto rfl ?_
            refine z_last (e := zb v) rfl rfl (by decide) (by omega) rfl ?_
            refine z_pushI (z := 1) rfl rfl ?_
            refine z_iret rfl rfl ?_
            refine ⟨?_, ?_⟩
            · first | rfl | exact congrArg (fun v => some (zi v)) (by omega) | (exfalso; omega)
            · exfalso
              omega
    · refine z_pushI (z := (-12)) rfl rfl ?_
      refine z_iret rfl rfl ?_
      show zW _ _ _ _ _ _ _ _ _ _
      refine z_istore rfl rfl ?_
      refine z_iload rfl rfl ?_
      refine z_if_geF rfl (by decide) (by decide) ?_
      refine z_iload rfl rfl ?_
      refine z_iret rfl rfl ?_
      refine ⟨?_, ?_⟩
      · first | rfl | exact congrArg (fun v => some (zi v)) (by omega) | (exfalso; omega)
      · exact hr
  · refine z_pushI (z := (-11)) rfl rfl ?_
    refine z_iret rfl rfl ?_
    show zW _ _ _ _ _ _ _ _ _ _
    refine z_istore rfl rfl ?_
    refine z_iload rfl rfl ?_
    refine z_if_geF rfl (by decide) (by decide) ?_
    refine z_iload rfl rfl ?_
    refine z_iret rfl rfl ?_
    refine ⟨?_, ?_⟩
    · first | rfl | exact congrArg (fun v => some (zi v)) (by omega) | (exfalso; omega)
    · exact hr
theorem st_element_02 {X : Nat × (Nat → Int32)} {d : Nat} {J M : zA} {R : zR} {i : Int} (hr : Rel X J M R) (hi : -2147483648 ≤ i ∧ i < 2147483648) (hh : J 38 0 = 2) : zW X (d + 20) 139 0 (gEn 139 [(.ref 0), (zi 0), (zi i)]) [] J M R (stL X (d + 20) 253 [(zi 0), (zi i)]) := by
  have hr0 := hr
  obtain ⟨hR, hG, hY, hD, hP, hC, hAc, hS, hTp, hX, hW⟩ := hr0
  have hRr : zRoR R := zRoR_of hR
  have hA0 := hAc
  obtain ⟨a1, a2, a3, a4, a5, a6⟩ := hA0
  have e83 : J 83 0 = -2 - J 38 2 := (hS 0 (by decide) (by decide)).1.symm.trans (cH_2 hh)
  have s3 : 0 ≤ J 38 2 ∧ J 38 2 ≤ 4 := (hS 0 (by decide) (by decide)).2.2.1
  have s4 : 0 ≤ J 38 3 ∧ J 38 3 ≤ 60 := (hS 0 (by decide) (by decide)).2.2.2.1
  have s6 := (hS 0 (by decide) (by decide)).2.2.2.2.2 hh
  have s7 : J 84 0 = J 38 3 := s6.1.symm
  have s8 : ∀ i, 0 ≤ i → i < J 38 3 → M 39 i = M 85 (0 + i) := s6.2.1
  show zW _ _ _ _ [some (.ref 0), some (zi 0), some (zi i)] _ _ _ _ _
  refine z_iload rfl rfl ?_
  refine z_callSi (As := [_]) (le := [some _]) rfl rfl (Nat.le_of_ble_eq_true rfl) (Nat.le_of_ble_eq_true rfl) rfl ?_
  refine z_iload rfl rfl ?_
  refine z_if_ltF rfl (by decide) (by decide) ?_
  refine z_iload rfl rfl ?_
  refine z_pushI (z := 6) rfl rfl ?_
  refine z_icmp_geF rfl (by decide) (by decide) (by decide) ?_
  refine z_pushI (z := 1) rfl rfl ?_
  refine z_goto rfl ?_
  refine z_bret rfl rfl (by decide) ?_
  show zW _ _ _ _ _ _ _ _ _ _
  refine z_if_eqF rfl (by decide) (by decide) ?_
  refine z_aload rfl rfl ?_
  refine z_getR (r := 37) rfl rfl (hR _ rm_0_11) ?_
  refine z_iload rfl rfl ?_
  refine z_aald (r := 38) rfl rfl (by decide) (by decide) (hR _ rm_37_0) ?_
  refine z_iload rfl rfl ?_
  refine z_callVi (As := [_]) (le := [some _, some _]) rfl rfl rfl (Nat.le_of_ble_eq_true rfl) (Nat.le_of_ble_eq_true rfl) rfl ?_
  refine z_aload rfl rfl ?_
  refine z_getI (v := 2) rfl rfl (hh) ?_
  refine z_if_neT rfl (by decide) (by decide) ?_
  refine z_aload rfl rfl ?_
  refine z_getI (v := 2) rfl rfl (hh) ?_
  refine z_pushI (z := 2) rfl rfl ?_
  refine z_icmp_eqT rfl (by decide) (by decide) (by decide) ?_
  refine z_iload rfl rfl ?_
  refine z_if_lt rfl (by omega) (fun h1 => ?_) (fun h1 => ?_)
  · refine z_pushI (z := (-13)) rfl rfl ?_
    refine z_iret rfl rfl ?_
    show zW _ _ _ _ _ _ _ _ _ _
    refine z_if_geF rfl (by decide) (by decide) ?_
    refine z_pushL (z := (-9223372036854775808)) rfl rfl ?_
    refine z_lret rfl rfl ?_
    refine ⟨_, rfl, ?_⟩
    show zW _ _ _ _ [some (.ref 50), some (zi 0), some (zi i)] _ _ _ _ _
    refine z_aload rfl rfl ?_
    refine z_iload rfl rfl ?_
    refine z_iload rfl rfl ?_
    refine z_callVi (As := [_, _]) (le := [some _, some _, some _]) rfl rfl rfl (Nat.le_of_ble_eq_true rfl) (Nat.le_of_ble_eq_true rfl) rfl ?_
    refine z_iload rfl rfl ?_
    refine z_callSi (As := [_]) (le := [some _]) rfl rfl (Nat.le_of_ble_eq_true rfl) (Nat.le_of_ble_eq_true rfl) rfl ?_
    refine z_iload rfl rfl ?_
    refine z_pushI (z := 0) rfl rfl ?_
    refine z_pushI (z := 5) rfl rfl ?_
    refine z_callSi (As := [_, _, _]) (le := [some _, some _, some _]) rfl rfl (Nat.le_of_ble_eq_true rfl) (Nat.le_of_ble_eq_true rfl) rfl ?_
    refine z_iload rfl rfl ?_
    refine z_iload rfl rfl ?_
    refine z_icmp_ltF rfl (by decide) (by decide) (by decide) ?_
    refine z_iload rfl rfl ?_
    refine z_iload rfl rfl ?_
    refine z_icmp_gtF rfl (by decide) (by decide) (by decide) ?_
    refine z_pushI (z := 1) rfl rfl ?_
    refine z_goto rfl ?_
    refine z_bret rfl rfl (by decide) ?_
    show zW _ _ _ _ _ _ _ _ _ _
    refine z_bret rfl rfl (by decide) ?_
    show zW _ _ _ _ _ _ _ _ _ _
    refine z_if_neT rfl (by decide) (by decide) ?_
    refine z_aload rfl rfl ?_
    refine z_getR (r := 83) rfl rfl (hRr _ rm_50_58 (by decide)) ?_
    refine z_iload rfl rfl ?_
    refine z_iald (v := (-2) - (J 38 2)) rfl rfl (by decide) (by decide) (e83) ?_
    refine z_pushI (z := (-1)) rfl rfl ?_
    refine z_icmp_ne rfl (by omega) (by decide) (fun h2 => ?_) (fun h2 => ?_)
    · refine z_aload rfl rfl ?_
      refine z_getR (r := 83) rfl rfl (hRr _ rm_50_58 (by decide)) ?_
      refine z_iload rfl rfl ?_
      refine z_iald (v := (-2) - (J 38 2)) rfl rfl (by decide) (by decide) (e83) ?_
      refine z_if_lt rfl (by omega) (fun h3 => ?_) (fun h3 => ?_)
      · refine z_iload rfl rfl ?_
        refine z_pushI (z := 0) rfl rfl ?_
        refine z_aload rfl rfl ?_
        refine z_getR (r := 84) rfl rfl (hRr _ rm_50_59 (by decide)) ?_
        refine z_iload rfl rfl ?_
        refine z_iald (v := J 38 3) rfl rfl (by decide) (by decide) (s7) ?_
        refine z_pushI (z := 1) rfl rfl ?_
        refine z_isub (e := (J 38 3) - 1) rfl rfl ?_
        refine z_callSi (As := [_, _, _]) (le := [some _, some _, some _]) rfl rfl (Nat.le_of_ble_eq_true rfl) (Nat.le_of_ble_eq_true rfl) rfl ?_
        refine z_iload rfl rfl ?_
        refine z_iload rfl rfl ?_
        refine z_icmp_ltT rfl (by omega) (by decide) (by omega) ?_
        refine z_pushI (z := 0) rfl rfl ?_
        refine z_bret rfl rfl (by decide) ?_
        show zW _ _ _ _ _ _ _ _ _ _
        refine z_if_eqT rfl (by decide) (by decide) ?_
        refine z_pushI (z := (-13)) rfl rfl ?_
        refine z_iret rfl rfl ?_
        show zW _ _ _ _ _ _ _ _ _ _
        refine z_if_geF rfl (by decide) (by decide) ?_
        refine z_pushL (z := (-9223372036854775808)) rfl rfl ?_
        refine z_goto rfl ?_
        refine z_lret rfl rfl ?_
        refine ⟨?_, ?_⟩
        · first | rfl | exact congrArg (fun v => some (zl v)) (by omega) | (exfalso; omega)
        · exact hr
      · refine z_pushI (z := (-12)) rfl rfl ?_
        refine z_iret rfl rfl ?_
        show zW _ _ _ _ _ _ _ _ _ _
        refine z_if_geF rfl (by decide) (by decide) ?_
        refine z_pushL (z := (-9223372036854775808)) rfl rfl ?_
        refine z_goto rfl ?_
        refine z_lret rfl rfl ?_
        refine ⟨?_, ?_⟩
        · first | rfl | exact congrArg (fun v => some (zl v)) (by omega) | (exfalso; omega)
        · exact hr
    · refine z_pushI (z := (-11)) rfl rfl ?_
      refine z_iret rfl rfl ?_
      show zW _ _ _ _ _ _ _ _ _ _
      refine z_if_geF rfl (by decide) (by decide) ?_
      refine z_pushL (z := (-9223372036854775808)) rfl rfl ?_
      refine z_goto rfl ?_
      refine z_lret rfl rfl ?_
      refine ⟨?_, ?_⟩
      · first | rfl | exact congrArg (fun v => some (zl v)) (by omega) | (exfalso; omega)
      · exact hr
  · refine z_iload rfl rfl ?_
    refine z_aload rfl rfl ?_
    refine z_getI (v := J 38 3) rfl rfl (rfl) ?_
    refine z_icmp_ge rfl (by omega) (by omega) (fun h2 => ?_) (fun h2 => ?_)
    · refine z_pushI (z := (-13)) rfl rfl ?_
      refine z_iret rfl rfl ?_
      show zW _ _ _ _ _ _ _ _ _ _
      refine z_if_geF rfl (by decide) (by decide) ?_
      refine z_pushL (z := (-9223372036854775808)) rfl rfl ?_
      refine z_lret rfl rfl ?_
      refine ⟨_, rfl, ?_⟩
      show zW _ _ _ _ [some (.ref 50), some (zi 0), some (zi i)] _ _ _ _ _
      refine z_aload rfl rfl ?_
      refine z_iload rfl rfl ?_
      refine z_iload rfl rfl ?_
      refine z_callVi (As := [_, _]) (le := [some _, some _, some _]) rfl rfl rfl (Nat.le_of_ble_eq_true rfl) (Nat.le_of_ble_eq_true rfl) rfl ?_
      refine z_iload rfl rfl ?_
      refine z_callSi (As := [_]) (le := [some _]) rfl rfl (Nat.le_of_ble_eq_true rfl) (Nat.le_of_ble_eq_true rfl) rfl ?_
      refine z_iload rfl rfl ?_
      refine z_pushI (z := 0) rfl rfl ?_
      refine z_pushI (z := 5) rfl rfl ?_
      refine z_callSi (As := [_, _, _]) (le := [some _, some _, some _]) rfl rfl (Nat.le_of_ble_eq_true rfl) (Nat.le_of_ble_eq_true rfl) rfl ?_
      refine z_iload rfl rfl ?_
      refine z_iload rfl rfl ?_
      refine z_icmp_ltF rfl (by decide) (by decide) (by decide) ?_
      refine z_iload rfl rfl ?_
      refine z_iload rfl rfl ?_
      refine z_icmp_gtF rfl (by decide) (by decide) (by decide) ?_
      refine z_pushI (z := 1) rfl rfl ?_
      refine z_goto rfl ?_
      refine z_bret rfl rfl (by decide) ?_
      show zW _ _ _ _ _ _ _ _ _ _
      refine z_bret rfl rfl (by decide) ?_
      show zW _ _ _ _ _ _ _ _ _ _
      refine z_if_neT rfl (by decide) (by decide) ?_
      refine z_aload rfl rfl ?_
      refine z_getR (r := 83) rfl rfl (hRr _ rm_50_58 (by decide)) ?_
      refine z_iload rfl rfl ?_
      refine z_iald (v := (-2) - (J 38 2)) rfl rfl (by decide) (by decide) (e83) ?_
      refine z_pushI (z := (-1)) rfl rfl ?_
      refine z_icmp_ne rfl (by omega) (by decide) (fun h3 => ?_) (fun h3 => ?_)
      · refine z_aload rfl rfl ?_
        refine z_getR (r := 83) rfl rfl (hRr _ rm_50_58 (by decide)) ?_
        refine z_iload rfl rfl ?_
        refine z_iald (v := (-2) - (J 38 2)) rfl rfl (by decide) (by decide) (e83) ?_
        refine z_if_lt rfl (by omega) (fun h4 => ?_) (fun h4 => ?_)
        · refine z_iload rfl rfl ?_
          refine z_pushI (z := 0) rfl rfl ?_
          refine z_aload rfl rfl ?_
          refine z_getR (r := 84) rfl rfl (hRr _ rm_50_59 (by decide)) ?_
          refine z_iload rfl rfl ?_
          refine z_iald (v := J 38 3) rfl rfl (by decide) (by decide) (s7) ?_
          refine z_pushI (z := 1) rfl rfl ?_
          refine z_isub (e := (J 38 3) - 1) rfl rfl ?_
          refine z_callSi (As := [_, _, _]) (le := [some _, some _, some _]) rfl rfl (Nat.le_of_ble_eq_true rfl) (Nat.le_of_ble_eq_true rfl) rfl ?_
          refine z_iload rfl rfl ?_
          refine z_iload rfl rfl ?_
          refine z_icmp_ltF rfl (by omega) (by decide) (by omega) ?_
          refine z_iload rfl rfl ?_
          refine z_iload rfl rfl ?_
          refine z_icmp_gtT rfl (by omega) (by omega) (by omega) ?_
          refine z_pushI (z := 0) rfl rfl ?_
          refine z_bret rfl rfl (by decide) ?_
          show zW _ _ _ _ _ _ _ _ _ _
          refine z_if_eqT rfl (by decide) (by decide) ?_
          refine z_pushI (z := (-13)) rfl rfl ?_
          refine z_iret rfl rfl ?_
          show zW _ _ _ _ _ _ _ _ _ _
          refine z_if_geF rfl (by decide) (by decide) ?_
          refine z_pushL (z := (-9223372036854775808)) rfl rfl ?_
          refine z_goto rfl ?_
          refine z_lret rfl rfl ?_
          refine ⟨?_, ?_⟩
          · first | rfl | exact congrArg (fun v => some (zl v)) (by omega) | (exfalso; omega)
          · exact hr
        · refine z_pushI (z := (-12)) rfl rfl ?_
          refine z_iret rfl rfl ?_
          show zW _ _ _ _ _ _ _ _ _ _
          refine z_if_geF rfl (by decide) (by decide) ?_
          refine z_pushL (z := (-9223372036854775808)) rfl rfl ?_
          refine z_goto rfl ?_
          refine z_lret rfl rfl ?_
          refine ⟨?_, ?_⟩
          · first | rfl | exact congrArg (fun v => some (zl v)) (by omega) | (exfalso; omega)
          · exact hr
      · refine z_pushI (z := (-11)) rfl rfl ?_
        refine z_iret rfl rfl ?_
        show zW _ _ _ _ _ _ _ _ _ _
        refine z_if_geF rfl (by decide) (by decide) ?_
        refine z_pushL (z := (-9223372036854775808)) rfl rfl ?_
        refine z_goto rfl ?_
        refine z_lret rfl rfl ?_
        refine ⟨?_, ?_⟩
        · first | rfl | exact congrArg (fun v => some (zl v)) (by omega) | (exfalso; omega)
        · exact hr
    · refine z_pushI (z := 0) rfl rfl ?_
      refine z_goto rfl ?_
      refine z_iret rfl rfl ?_
      show zW _ _ _ _ _ _ _ _ _ _
      refine z_if_geT rfl (by decide) (by decide) ?_
      refine z_aload rfl rfl ?_
      refine z_getR (r := 37) rfl rfl (hR _ rm_0_11) ?_
      refine z_iload rfl rfl ?_
      refine z_aald (r := 38) rfl rfl (by decide) (by decide) (hR _ rm_37_0) ?_
      refine z_iload rfl rfl ?_
      refine z_callVi (As := [_]) (le := [some _, some _]) rfl rfl rfl (Nat.le_of_ble_eq_true rfl) (Nat.le_of_ble_eq_true rfl) rfl ?_
      refine z_iload rfl rfl ?_
      refine z_if_ltF rfl (by omega) (by omega) ?_
      refine z_iload rfl rfl ?_
      refine z_aload rfl rfl ?_
      refine z_getI (v := J 38 3) rfl rfl (rfl) ?_
      refine z_icmp_geF rfl (by omega) (by omega) (by omega) ?_
      refine z_aload rfl rfl ?_
      refine z_getR (r := 39) rfl rfl (hR _ rm_38_4) ?_
      refine z_iload rfl rfl ?_
      refine z_lald (v := M 39 i) rfl rfl (by decide) (by omega) (rfl) ?_
      refine z_goto rfl ?_
      refine z_lret rfl rfl ?_
      show zW _ _ _ _ _ _ _ _ _ _
      refine z_lret rfl rfl ?_
      refine ⟨_, rfl, ?_⟩
      show zW _ _ _ _ [some (.ref 50), some (zi 0), some (zi i)] _ _ _ _ _
      refine z_aload rfl rfl ?_
      refine z_iload rfl rfl ?_
      refine z_iload rfl rfl ?_
      refine z_callVi (As := [_, _]) (le := [some _, some _, some _]) rfl rfl rfl (Nat.le_of_ble_eq_true rfl) (Nat.le_of_ble_eq_true rfl) rfl ?_
      refine z_iload rfl rfl ?_
      refine z_callSi (As := [_]) (le := [some _]) rfl rfl (Nat.le_of_ble_eq_true rfl) (Nat.le_of_ble_eq_true rfl) rfl ?_
      refine z_iload rfl rfl ?_
      refine z_pushI (z := 0) rfl rfl ?_
      refine z_pushI (z := 5) rfl rfl ?_
      refine z_callSi (As := [_, _, _]) (le := [some _, some _, some _]) rfl rfl (Nat.le_of_ble_eq_true rfl) (Nat.le_of_ble_eq_true rfl) rfl ?_
      refine z_iload rfl rfl ?_
      refine z_iload rfl rfl ?_
      refine z_icmp_ltF rfl (by decide) (by decide) (by decide) ?_
      refine z_iload rfl rfl ?_
      refine z_iload rfl rfl ?_
      refine z_icmp_gtF rfl (by decide) (by decide) (by decide) ?_
      refine z_pushI (z := 1) rfl rfl ?_
      refine z_goto rfl ?_
      refine z_bret rfl rfl (by decide) ?_
      show zW _ _ _ _ _ _ _ _ _ _
      refine z_bret rfl rfl (by decide) ?_
      show zW _ _ _ _ _ _ _ _ _ _
      refine z_if_neT rfl (by decide) (by decide) ?_
      refine z_aload rfl rfl ?_
      refine z_getR (r := 83) rfl rfl (hRr _ rm_50_58 (by decide)) ?_
      refine z_iload rfl rfl ?_
      refine z_iald (v := (-2) - (J 38 2)) rfl rfl (by decide) (by decide) (e83) ?_
      refine z_pushI (z := (-1)) rfl rfl ?_
      refine z_icmp_ne rfl (by omega) (by decide) (fun h3 => ?_) (fun h3 => ?_)
      · refine z_aload rfl rfl ?_
        refine z_getR (r := 83) rfl rfl (hRr _ rm_50_58 (by decide)) ?_
        refine z_iload rfl rfl ?_
        refine z_iald (v := (-2) - (J 38 2)) rfl rfl (by decide) (by decide) (e83) ?_
        refine z_if_lt rfl (by omega) (fun h4 => ?_) (fun h4 => ?_)
        · refine z_iload rfl rfl ?_
          refine z_pushI (z := 0) rfl rfl ?_
          refine z_aload rfl rfl ?_
          refine z_getR (r := 84) rfl rfl (hRr _ rm_50_59 (by decide)) ?_
          refine z_iload rfl rfl ?_
          refine z_iald (v := J 38 3) rfl rfl (by decide) (by decide) (s7) ?_
          refine z_pushI (z := 1) rfl rfl ?_
          refine z_isub (e := (J 38 3) - 1) rfl rfl ?_
          refine z_callSi (As := [_, _, _]) (le := [some _, some _, some _]) rfl rfl (Nat.le_of_ble_eq_true rfl) (Nat.le_of_ble_eq_true rfl) rfl ?_
          refine z_iload rfl rfl ?_
          refine z_iload rfl rfl ?_
          refine z_icmp_ltF rfl (by omega) (by decide) (by omega) ?_
          refine z_iload rfl rfl ?_
          refine z_iload rfl rfl ?_
          refine z_icmp_gtF rfl (by omega) (by omega) (by omega) ?_
          refine z_pushI (z := 1) rfl rfl ?_
          refine z_goto rfl ?_
          refine z_bret rfl rfl (by decide) ?_
          show zW _ _ _ _ _ _ _ _ _ _
          refine z_if_eqF rfl (by decide) (by decide) ?_
          refine z_pushI (z := 0) rfl rfl ?_
          refine z_goto rfl ?_
          refine z_iret rfl rfl ?_
          show zW _ _ _ _ _ _ _ _ _ _
          refine z_if_geT rfl (by decide) (by decide) ?_
          refine z_aload rfl rfl ?_
          refine z_getR (r := 85) rfl rfl (hRr _ rm_50_60 (by decide)) ?_
          refine z_pushI (z := 60) rfl rfl ?_
          refine z_iload rfl rfl ?_
          refine z_imul (e := 0) rfl rfl ?_
          refine z_iload rfl rfl ?_
          refine z_iadd (e := 0 + i) rfl rfl ?_
          refine z_lald (v := M 85 (0 + i)) rfl rfl (by decide) (by omega) (rfl) ?_
          refine z_lret rfl rfl ?_
          refine ⟨?_, ?_⟩
          · first | exact congrArg (fun v => some (zl v)) (s8 i (by omega) (by omega)).symm | (exfalso; omega)
          · exact hr
        · refine z_pushI (z := (-12)) rfl rfl ?_
          refine z_iret rfl rfl ?_
          show zW _ _ _ _ _ _ _ _ _ _
          refine z_if_geF rfl (by decide) (by decide) ?_
          refine z_pushL (z := (-9223372036854775808)) rfl rfl ?_
          refine z_goto rfl ?_
          refine z_lret rfl rfl ?_
          refine ⟨?_, ?_⟩
          · first | exact congrArg (fun v => some (zl v)) (s8 i (by omega) (by omega)).symm | (exfalso; omega)
          · exact hr
      · refine z_pushI (z := (-11)) rfl rfl ?_
        refine z_iret rfl rfl ?_
        show zW _ _ _ _ _ _ _ _ _ _
        refine z_if_geF rfl (by decide) (by decide) ?_
        refine z_pushL (z := (-9223372036854775808)) rfl rfl ?_
        refine z_goto rfl ?_
        refine z_lret rfl rfl ?_
        refine ⟨?_, ?_⟩
        · first | exact congrArg (fun v => some (zl v)) (s8 i (by omega) (by omega)).symm | (exfalso; omega)
        · exact hr
theorem st_put_020 {X : Nat × (Nat → Int32)} {d : Nat} {J M : zA} {R : zR} {i v : Int} (hr : Rel X J M R) (hi : -2147483648 ≤ i ∧ i < 2147483648) (hv : -9223372036854775808 ≤ v ∧ v < 9223372036854775808) (hh : J 38 0 = 2) (hso : J 38 2 = 0) : zW X (d + 20) 138 0 (gEn 138 [(.ref 0), (zi 0), (zi i), (zl v)]) [] J M R (stP X (d + 20) 252 [(zi 0), (zi i), (zl v)]) := by
  have hr0 := hr
  obtain ⟨hR, hG, hY, hD, hP, hC, hAc, hS, hTp, hX, hW⟩ := hr0
  have hRr : zRoR R := zRoR_of hR
  have e83 : J 83 0 = -2 - J 38 2 := (hS 0 (by decide) (by decide)).1.symm.trans (cH_2 hh)
  have s3 : 0 ≤ J 38 2 ∧ J 38 2 ≤ 4 := (hS 0 (by decide) (by decide)).2.2.1
  have s4 : 0 ≤ J 38 3 ∧ J 38 3 ≤ 60 := (hS 0 (by decide) (by decide)).2.2.2.1
  have s6 := (hS 0 (by decide) (by decide)).2.2.2.2.2 hh
  have s7 : J 84 0 = J 38 3 := s6.1.symm
  have s8 : ∀ i, 0 ≤ i → i < J 38 3 → M 39 i = M 85 (0 + i) := s6.2.1
  show zW _ _ _ _ [some (.ref 0), some (zi 0), some (zi i), some (zl v), none, none] _ _ _ _ _
  refine z_iload rfl rfl ?_
  refine z_callSi (As := [_]) (le := [some _]) rfl rfl (Nat.le_of_ble_eq_true rfl) (Nat.le_of_ble_eq_true rfl) rfl ?_
  refine z_iload rfl rfl ?_
  refine z_if_ltF rfl (by decide) (by decide) ?_
  refine z_iload rfl rfl ?_
  refine z_pushI (z := 6) rfl rfl ?_
  refine z_icmp_geF rfl (by decide) (by decide) (by decide) ?_
  refine z_pushI (z := 1) rfl rfl ?_
  refine z_goto rfl ?_
  refine z_bret rfl rfl (by decide) ?_
  show zW _ _ _ _ _ _ _ _ _ _
  refine z_if_neT rfl (by decide) (by decide) ?_
  refine z_aload rfl rfl ?_
  refine z_getR (r := 37) rfl rfl (hR _ rm_0_11) ?_
  refine z_iload rfl rfl ?_
  refine z_aald (r := 38) rfl rfl (by decide) (by decide) (hR _ rm_37_0) ?_
  refine z_iload rfl rfl ?_
  refine z_callVi (As := [_]) (le := [some _, some _]) rfl rfl rfl (Nat.le_of_ble_eq_true rfl) (Nat.le_of_ble_eq_true rfl) rfl ?_
  refine z_aload rfl rfl ?_
  refine z_getI (v := 2) rfl rfl (hh) ?_
  refine z_if_neT rfl (by decide) (by decide) ?_
  refine z_aload rfl rfl ?_
  refine z_getI (v := 2) rfl rfl (hh) ?_
  refine z_pushI (z := 2) rfl rfl ?_
  refine z_icmp_eqT rfl (by decide) (by decide) (by decide) ?_
  refine z_iload rfl rfl ?_
  refine z_if_lt rfl (by omega) (fun h1 => ?_) (fun h1 => ?_)
  · refine z_pushI (z := (-13)) rfl rfl ?_
    refine z_iret rfl rfl ?_
    show zW _ _ _ _ _ _ _ _ _ _
    refine z_istore rfl rfl ?_
    refine z_iload rfl rfl ?_
    refine z_if_geF rfl (by decide) (by decide) ?_
    refine z_iload rfl rfl ?_
    refine z_iret rfl rfl ?_
    refine ⟨_, rfl, ?_⟩
    show zW _ _ _ _ [some (.ref 50), some (zi 0), some (zi i), some (zl v), none, none, none] _ _ _ _ _
    refine z_aload rfl rfl ?_
    refine z_iload rfl rfl ?_
    refine z_iload rfl rfl ?_
    refine z_callVi (As := [_, _]) (le := [some _, some _, some _]) rfl rfl rfl (Nat.le_of_ble_eq_true rfl) (Nat.le_of_ble_eq_true rfl) rfl ?_
    refine z_iload rfl rfl ?_
    refine z_callSi (As := [_]) (le := [some _]) rfl rfl (Nat.le_of_ble_eq_true rfl) (Nat.le_of_ble_eq_true rfl) rfl ?_
    refine z_iload rfl rfl ?_
    refine z_pushI (z := 0) rfl rfl ?_
    refine z_pushI (z := 5) rfl rfl ?_
    refine z_callSi (As := [_, _, _]) (le := [some _, some _, some _]) rfl rfl (Nat.le_of_ble_eq_true rfl) (Nat.le_of_ble_eq_true rfl) rfl ?_
    refine z_iload rfl rfl ?_
    refine z_iload rfl rfl ?_
    refine z_icmp_ltF rfl (by decide) (by decide) (by decide) ?_
    refine z_iload rfl rfl ?_
    refine z_iload rfl rfl ?_
    refine z_icmp_gtF rfl (by decide) (by decide) (by decide) ?_
    refine z_pushI (z := 1) rfl rfl ?_
    refine z_goto rfl ?_
    refine z_bret rfl rfl (by decide) ?_
    show zW _ _ _ _ _ _ _ _ _ _
    refine z_bret rfl rfl (by decide) ?_
    show zW _ _ _ _ _ _ _ _ _ _
    refine z_if_neT rfl (by decide) (by decide) ?_
    refine z_aload rfl rfl ?_
    refine z_getR (r := 83) rfl rfl (hRr _ rm_50_58 (by decide)) ?_
    refine z_iload rfl rfl ?_
    refine z_iald (v := (-2)) rfl rfl (by decide) (by decide) ((e83.trans (by rw [hso]; rfl))) ?_
    refine z_pushI (z := (-1)) rfl rfl ?_
    refine z_icmp_neT rfl (by decide) (by decide) (by decide) ?_
    refine z_aload rfl rfl ?_
    refine z_getR (r := 83) rfl rfl (hRr _ rm_50_58 (by decide)) ?_
    refine z_iload rfl rfl ?_
    refine z_iald (v := (-2)) rfl rfl (by decide) (by decide) ((e83.trans (by rw [hso]; rfl))) ?_
    refine z_if_ltT rfl (by decide) (by decide) ?_
    refine z_iload rfl rfl ?_
    refine z_pushI (z := 0) rfl rfl ?_
    refine z_aload rfl rfl ?_
    refine z_getR (r := 84) rfl rfl (hRr _ rm_50_59 (by decide)) ?_
    refine z_iload rfl rfl ?_
    refine z_iald (v := J 38 3) rfl rfl (by decide) (by decide) (s7) ?_
    refine z_pushI (z := 1) rfl rfl ?_
    refine z_isub (e := (J 38 3) - 1) rfl rfl ?_
    refine z_callSi (As := [_, _, _]) (le := [some _, some _, some _]) rfl rfl (Nat.le_of_ble_eq_true rfl) (Nat.le_of_ble_eq_true rfl) rfl ?_
    refine z_iload rfl rfl ?_
    refine z_iload rfl rfl ?_
    refine z_icmp_ltT rfl (by omega) (by decide) (by omega) ?_
    refine z_pushI (z := 0) rfl rfl ?_
    refine z_bret rfl rfl (by decide) ?_
    show zW _ _ _ _ _ _ _ _ _ _
    refine z_if_eqT rfl (by decide) (by decide) ?_
    refine z_pushI (z := (-13)) rfl rfl ?_
    refine z_iret rfl rfl ?_
    show zW _ _ _ _ _ _ _ _ _ _
    refine z_istore rfl rfl ?_
    refine z_iload rfl rfl ?_
    refine z_if_geF rfl (by decide) (by decide) ?_
    refine z_iload rfl rfl ?_
    refine z_iret rfl rfl ?_
    refine ⟨?_, ?_⟩
    · first | rfl | exact congrArg (fun v => some (zi v)) (by omega) | (exfalso; omega)
    · exact hr
  · refine z_iload rfl rfl ?_
    refine z_aload rfl rfl ?_
    refine z_getI (v := J 38 3) rfl rfl (rfl) ?_
    refine z_icmp_ge rfl (by omega) (by omega) (fun h2 => ?_) (fun h2 => ?_)
    · refine z_pushI (z := (-13)) rfl rfl ?_
      refine z_iret rfl rfl ?_
      show zW _ _ _ _ _ _ _ _ _ _
      refine z_istore rfl rfl ?_
      refine z_iload rfl rfl ?_
      refine z_if_geF rfl (by decide) (by decide) ?_
      refine z_iload rfl rfl ?_
      refine z_iret rfl rfl ?_
      refine ⟨_, rfl, ?_⟩
      show zW _ _ _ _ [some (.ref 50), some (zi 0), some (zi i), some (zl v), none, none, none] _ _ _ _ _
      refine z_aload rfl rfl ?_
      refine z_iload rfl rfl ?_
      refine z_iload rfl rfl ?_
      refine z_callVi (As := [_, _]) (le := [some _, some _, some _]) rfl rfl rfl (Nat.le_of_ble_eq_true rfl) (Nat.le_of_ble_eq_true rfl) rfl ?_
      refine z_iload rfl rfl ?_
      refine z_callSi (As := [_]) (le := [some _]) rfl rfl (Nat.le_of_ble_eq_true rfl) (Nat.le_of_ble_eq_true rfl) rfl ?_
      refine z_iload rfl rfl ?_
      refine z_pushI (z := 0) rfl rfl ?_
      refine z_pushI (z := 5) rfl rfl ?_
      refine z_callSi (As := [_, _, _]) (le := [some _, some _, some _]) rfl rfl (Nat.le_of_ble_eq_true rfl) (Nat.le_of_ble_eq_true rfl) rfl ?_
      refine z_iload rfl rfl ?_
      refine z_iload rfl rfl ?_
      refine z_icmp_ltF rfl (by decide) (by decide) (by decide) ?_
      refine z_iload rfl rfl ?_
      refine z_iload rfl rfl ?_
      refine z_icmp_gtF rfl (by decide) (by decide) (by decide) ?_
      refine z_pushI (z := 1) rfl rfl ?_
      refine z_goto rfl ?_
      refine z_bret rfl rfl (by decide) ?_
      show zW _ _ _ _ _ _ _ _ _ _
      refine z_bret rfl rfl (by decide) ?_
      show zW _ _ _ _ _ _ _ _ _ _
      refine z_if_neT rfl (by decide) (by decide) ?_
      refine z_aload rfl rfl ?_
      refine z_getR (r := 83) rfl rfl (hRr _ rm_50_58 (by decide)) ?_
      refine z_iload rfl rfl ?_
      refine z_iald (v := (-2)) rfl rfl (by decide) (by decide) ((e83.trans (by rw [hso]; rfl))) ?_
      refine z_pushI (z := (-1)) rfl rfl ?_
      refine z_icmp_neT rfl (by decide) (by decide) (by decide) ?_
      refine z_aload rfl rfl ?_
      refine z_getR (r := 83) rfl rfl (hRr _ rm_50_58 (by decide)) ?_
      refine z_iload rfl rfl ?_
      refine z_iald (v := (-2)) rfl rfl (by decide) (by decide) ((e83.trans (by rw [hso]; rfl))) ?_
      refine z_if_ltT rfl (by decide) (by decide) ?_
      refine z_iload rfl rfl ?_
      refine z_pushI (z := 0) rfl rfl ?_
      refine z_aload rfl rfl ?_
      refine z_getR (r := 84) rfl rfl (hRr _ rm_50_59 (by decide)) ?_
      refine z_iload rfl rfl ?_
      refine z_iald (v := J 38 3) rfl rfl (by decide) (by decide) (s7) ?_
      refine z_pushI (z := 1) rfl rfl ?_
      refine z_isub (e := (J 38 3) - 1) rfl rfl ?_
      refine z_callSi (As := [_, _, _]) (le := [some _, some _, some _]) rfl rfl (Nat.le_of_ble_eq_true rfl) (Nat.le_of_ble_eq_true rfl) rfl ?_
      refine z_iload rfl rfl ?_
      refine z_iload rfl rfl ?_
      refine z_icmp_ltF rfl (by omega) (by decide) (by omega) ?_
      refine z_iload rfl rfl ?_
      refine z_iload rfl rfl ?_
      refine z_icmp_gtT rfl (by omega) (by omega) (by omega) ?_
      refine z_pushI (z := 0) rfl rfl ?_
      refine z_bret rfl rfl (by decide) ?_
      show zW _ _ _ _ _ _ _ _ _ _
      refine z_if_eqT rfl (by decide) (by decide) ?_
      refine z_pushI (z := (-13)) rfl rfl ?_
      refine z_iret rfl rfl ?_
      show zW _ _ _ _ _ _ _ _ _ _
      refine z_istore rfl rfl ?_
      refine z_iload rfl rfl ?_
      refine z_if_geF rfl (by decide) (by decide) ?_
      refine z_iload rfl rfl ?_
      refine z_iret rfl rfl ?_
      refine ⟨?_, ?_⟩
      · first | rfl | exact congrArg (fun v => some (zi v)) (by omega) | (exfalso; omega)
      · exact hr
    · refine z_pushI (z := 0) rfl rfl ?_
      refine z_goto rfl ?_
      refine z_iret rfl rfl ?_
      show zW _ _ _ _ _ _ _ _ _ _
      refine z_istore rfl rfl ?_
      refine z_iload rfl rfl ?_
      refine z_if_geT rfl (by decide) (by decide) ?_
      refine z_aload rfl rfl ?_
      refine z_getR (r := 37) rfl rfl (hR _ rm_0_11) ?_
      refine z_iload rfl rfl ?_
      refine z_aald (r := 38) rfl rfl (by decide) (by decide) (hR _ rm_37_0) ?_
      refine z_iload rfl rfl ?_
      refine z_lload rfl rfl ?_
      refine z_callVi (As := [_, _]) (le := [some _, some _, some _, none]) rfl rfl rfl (Nat.le_of_ble_eq_true rfl) (Nat.le_of_ble_eq_true rfl) rfl ?_
      refine z_iload rfl rfl ?_
      refine z_if_ltF rfl (by omega) (by omega) ?_
      refine z_iload rfl rfl ?_
      refine z_aload rfl rfl ?_
      refine z_getI (v := J 38 3) rfl rfl (rfl) ?_
      refine z_icmp_geF rfl (by omega) (by omega) (by omega) ?_
      refine z_aload rfl rfl ?_
      refine z_getR (r := 39) rfl rfl (hR _ rm_38_4) ?_
      refine z_iload rfl rfl ?_
      refine z_aload rfl rfl ?_
      refine z_lload rfl rfl ?_
      refine z_callVi (As := [_]) (le := [some _, some _, none]) rfl rfl rfl (Nat.le_of_ble_eq_true rfl) (Nat.le_of_ble_eq_true rfl) rfl ?_
      refine z_aload rfl rfl ?_
      refine z_getI (v := 0) rfl rfl (hso) ?_
      refine z_swI (tg := 40) rfl (by decide) (T := [((0 : Int), 40), ((1 : Int), 45), ((2 : Int), 50), ((3 : Int), 66), ((4 : Int), 54)]) rfl (by decide) ?_
      refine z_lload rfl rfl ?_
      refine z_l2i rfl ?_
      refine z_i2b (e := zb v) rfl rfl ?_
      have q3 := zb_r v
      refine z_i2l rfl (by omega) ?_
      refine z_lret rfl rfl ?_
      show zW _ _ _ _ _ _ _ _ _ _
      refine z_last (e := zb v) rfl rfl (by decide) (by omega) rfl ?_
      refine z_vret rfl rfl ?_
      show zW _ _ _ _ _ _ _ _ _ _
      refine z_pushI (z := 1) rfl rfl ?_
      refine z_iret rfl rfl ?_
      refine ⟨_, rfl, ?_⟩
      show zW _ _ _ _ [some (.ref 50), some (zi 0), some (zi i), some (zl v), none, none, none] _ _ _ _ _
      refine z_aload rfl rfl ?_
      refine z_iload rfl rfl ?_
      refine z_iload rfl rfl ?_
      refine z_callVi (As := [_, _]) (le := [some _, some _, some _]) rfl rfl rfl (Nat.le_of_ble_eq_true rfl) (Nat.le_of_ble_eq_true rfl) rfl ?_
      refine z_iload rfl rfl ?_
      refine z_callSi (As := [_]) (le := [some _]) rfl rfl (Nat.le_of_ble_eq_true rfl) (Nat.le_of_ble_eq_true rfl) rfl ?_
      refine z_iload rfl rfl ?_
      refine z_pushI (z := 0) rfl rfl ?_
      refine z_pushI (z := 5) rfl rfl ?_
      refine z_callSi (As := [_, _, _]) (le := [some _, some _, some _]) rfl rfl (Nat.le_of_ble_eq_true rfl) (Nat.le_of_ble_eq_true rfl) rfl ?_
      refine z_iload rfl rfl ?_
      refine z_iload rfl rfl ?_
      refine z_icmp_ltF rfl (by decide) (by decide) (by decide) ?_
      refine z_iload rfl rfl ?_
      refine z_iload rfl rfl ?_
      refine z_icmp_gtF rfl (by decide) (by decide) (by decide) ?_
      refine z_pushI (z := 1) rfl rfl ?_
      refine z_goto rfl ?_
      refine z_bret rfl rfl (by decide) ?_
      show zW _ _ _ _ _ _ _ _ _ _
      refine z_bret rfl rfl (by decide) ?_
      show zW _ _ _ _ _ _ _ _ _ _
      refine z_if_neT rfl (by decide) (by decide) ?_
      refine z_aload rfl rfl ?_
      refine z_getR (r := 83) rfl rfl (hRr _ rm_50_58 (by decide)) ?_
      refine z_iload rfl rfl ?_
      refine z_iald (v := (-2)) rfl rfl (by decide) (by decide) ((e83.trans (by rw [hso]; rfl))) ?_
      refine z_pushI (z := (-1)) rfl rfl ?_
      refine z_icmp_neT rfl (by decide) (by decide) (by decide) ?_
      refine z_aload rfl rfl ?_
      refine z_getR (r := 83) rfl rfl (hRr _ rm_50_58 (by decide)) ?_
      refine z_iload rfl rfl ?_
      refine z_iald (v := (-2)) rfl rfl (by decide) (by decide) ((e83.trans (by rw [hso]; rfl))) ?_
      refine z_if_ltT rfl (by decide) (by decide) ?_
      refine z_iload rfl rfl ?_
      refine z_pushI (z := 0) rfl rfl ?_
      refine z_aload rfl rfl ?_
      refine z_getR (r := 84) rfl rfl (hRr _ rm_50_59 (by decide)) ?_
      refine z_iload rfl rfl ?_
      refine z_iald (v := J 38 3) rfl rfl (by decide) (by decide) (s7) ?_
      refine z_pushI (z := 1) rfl rfl ?_
      refine z_isub (e := (J 38 3) - 1) rfl rfl ?_
      refine z_callSi (As := [_, _, _]) (le := [some _, some _, some _]) rfl rfl (Nat.le_of_ble_eq_true rfl) (Nat.le_of_ble_eq_true rfl) rfl ?_
      refine z_iload rfl rfl ?_
      refine z_iload rfl rfl ?_
      refine z_icmp_ltF rfl (by omega) (by decide) (by omega) ?_
      refine z_iload rfl rfl ?_
      refine z_iload rfl rfl ?_
      refine z_icmp_gtF rfl (by omega) (by omega) (by omega) ?_
      refine z_pushI (z := 1) rfl rfl ?_
      refine z_goto rfl ?_
      refine z_bret rfl rfl (by decide) ?_
      show zW _ _ _ _ _ _ _ _ _ _
      refine z_if_eqF rfl (by decide) (by decide) ?_
      refine z_pushI (z := 0) rfl rfl ?_
      refine z_goto rfl ?_
      refine z_iret rfl rfl ?_
      show zW _ _ _ _ _ _ _ _ _ _
      refine z_istore rfl rfl ?_
      refine z_iload rfl rfl ?_
      refine z_if_geT rfl (by decide) (by decide) ?_
      refine z_pushI (z := (-2)) rfl rfl ?_
      refine z_aload rfl rfl ?_
      refine z_getR (r := 83) rfl rfl (hRr _ rm_50_58 (by decide)) ?_
      refine z_iload rfl rfl ?_
      refine z_iald (v := (-2)) rfl rfl (by decide) (by decide) ((e83.trans (by rw [hso]; rfl))) ?_
      refine z_isub (e := 0) rfl rfl ?_
      refine z_istore rfl rfl ?_
      refine z_aload rfl rfl ?_
      refine z_getR (r := 85) rfl rfl (hRr _ rm_50_60 (by decide)) ?_
      refine z_pushI (z := 60) rfl rfl ?_
      refine z_iload rfl rfl ?_
      refine z_imul (e := 0) rfl rfl ?_
      refine z_iload rfl rfl ?_
      refine z_iadd (e := 0 + i) rfl rfl ?_
      refine z_iload rfl rfl ?_
      refine z_if_neF rfl (by decide) (by decide) ?_
      refine z_lload rfl rfl ?_
      refine z_l2i rfl ?_
      refine z_i2b (e := zb v) rfl rfl ?_
      have q4 := zb_r v
      refine z_i2l rfl (by omega) ?_
      refine z_goto rfl ?_
      refine z_last (e := zb v) rfl rfl (by decide) (by omega) rfl ?_
      refine z_pushI (z := 1) rfl rfl ?_
      refine z_iret rfl rfl ?_
      refine ⟨?_, ?_⟩
      · first | rfl | exact congrArg (fun v => some (zi v)) (by omega) | (exfalso; omega)
      · have hk := (zK_r (k := (kL [] [])) (A := J))
        have hkm := (zK_x (a := 85) (x := 0 + i) (v := zb v) (zK_x (a := 39) (x := i) (v := zb v) (zK_r (k := (kL [39, 85] [])) (A := M)) rfl) rfl)
        exact ⟨hR, hG, RelY_k hk (by repeat' constructor) (fun p => by repeat' constructor) hY, RelD_k hk (by repeat' constructor) (fun p => by repeat' constructor) hD, RelP_k hk (by repeat' constructor) (fun p => by repeat' constructor) hP, RelC_k hk (by repeat' constructor) (fun p => by repeat' constructor) hC, RelA_k hk (by repeat' constructor) (fun p => by repeat' constructor) hAc, (RelS_one (J := J) (M := M) (c := 0) (fun t t1 t2 te => by have q : t = 0 ∨ t = 1 ∨ t = 2 ∨ t = 3 ∨ t = 4 ∨ t = 5 := (by omega); rcases q with rfl | rfl | rfl | rfl | rfl | rfl <;> first | exact absurd rfl te | exact ⟨fun j => rfl, rfl, rfl⟩) (fun t t1 t2 te => by have q : t = 0 ∨ t = 1 ∨ t = 2 ∨ t = 3 ∨ t = 4 ∨ t = 5 := (by omega); rcases q with rfl | rfl | rfl | rfl | rfl | rfl <;> first | exact absurd rfl te | exact ⟨fun j => rfl, fun j j1 j2 => (zU_x (by omega)).trans (zU_n (by decide))⟩) rfl (show RelS1 _ _ _ from ⟨(hS 0 (by decide) (by decide)).1, (hS 0 (by decide) (by decide)).2.1, s3, s4, (hS 0 (by decide) (by decide)).2.2.2.2.1, fun _ => ⟨s7.symm, fun k k1 k2 => by show (if k = i then zb v else M 39 k) = (if 0 + k = 0 + i then zb v else M 85 (0 + k)); by_cases e : k = i; rw [if_pos e, if_pos (by omega)]; rw [if_neg e, if_neg (by omega)]; exact s8 k k1 k2, (fun hq k k1 k2 => by show -128 ≤ (if k = i then zb v else M 39 k) ∧ (if k = i then zb v else M 39 k) ≤ 127; split <;> first | (have := zb_r v; omega) | exact s6.2.2 hq k k1 k2)⟩⟩) hS), RelT_k hk (by repeat' constructor) (fun p => by repeat' constructor) hTp, RelX_k hk (by repeat' constructor) (fun p => by repeat' constructor) hX, RelW_k hk ⟨rfl, rfl⟩ trivial hW⟩
theorem st_put_021 {X : Nat × (Nat → Int32)} {d : Nat} {J M : zA} {R : zR} {i v : Int} (hr : Rel X J M R) (hi : -2147483648 ≤ i ∧ i < 2147483648) (hv : -9223372036854775808 ≤ v ∧ v < 9223372036854775808) (hh : J 38 0 = 2) (hso : J 38 2 = 1) : zW X (d + 20) 138 0 (gEn 138 [(.ref 0), (zi 0), (zi i), (zl v)]) [] J M R (stP X (d + 20) 252 [(zi 0), (zi i), (zl v)]) := by
  have hr0 := hr
  obtain ⟨hR, hG, hY, hD, hP, hC, hAc, hS, hTp, hX, hW⟩ := hr0
  have hRr : zRoR R := zRoR_of hR
  have e83 : J 83 0 = -2 - J 38 2 := (hS 0 (by decide) (by decide)).1.symm.trans (cH_2 hh)
  have s3 : 0 ≤ J 38 2 ∧ J 38 2 ≤ 4 := (hS 0 (by decide) (by decide)).2.2.1
  have s4 : 0 ≤ J 38 3 ∧ J 38 3 ≤ 60 := (hS 0 (by decide) (by decide)).2.2.2.1
  have s6 := (hS 0 (by decide) (by decide)).2.2.2.2.2 hh
  have s7 : J 84 0 = J 38 3 := s6.1.symm
  have s8 : ∀ i, 0 ≤ i → i < J 38 3 → M 39 i = M 85 (0 + i) := s6.2.1
  show zW _ _ _ _ [some (.ref 0), some (zi 0), some (zi i), some (zl v), none, none] _ _ _ _ _
  refine z_iload rfl rfl ?_
  refine z_callSi (As := [_]) (le := [some _]) rfl rfl (Nat.le_of_ble_eq_true rfl) (Nat.le_of_ble_eq_true rfl) rfl ?_
  refine z_iload rfl rfl ?_
  refine z_if_ltF rfl (by decide) (by decide) ?_
  refine z_iload rfl rfl ?_
  refine z_pushI (z := 6) rfl rfl ?_
  refine z_icmp_geF rfl (by decide) (by decide) (by decide) ?_
  refine z_pushI (z := 1) rfl rfl ?_
  refine z_goto rfl ?_
  refine z_bret rfl rfl (by decide) ?_
  show zW _ _ _ _ _ _ _ _ _ _
  refine z_if_neT rfl (by decide) (by decide) ?_
  refine z_aload rfl rfl ?_
  refine z_getR (r := 37) rfl rfl (hR _ rm_0_11) ?_
  refine z_iload rfl rfl ?_
  refine z_aald (r := 38) rfl rfl (by decide) (by decide) (hR _ rm_37_0) ?_
  refine z_iload rfl rfl ?_
  refine z_callVi (As := [_]) (le := [some _, some _]) rfl rfl rfl (Nat.le_of_ble_eq_true rfl) (Nat.le_of_ble_eq_true rfl) rfl ?_
  refine z_aload rfl rfl ?_
  refine z_getI (v := 2) rfl rfl (hh) ?_
  refine z_if_neT rfl (by decide) (by decide) ?_
  refine z_aload rfl rfl ?_
  refine z_getI (v := 2) rfl rfl (hh) ?_
  refine z_pushI (z := 2) rfl rfl ?_
  refine z_icmp_eqT rfl (by decide) (by decide) (by decide) ?_
  refine z_iload rfl rfl ?_
  refine z_if_lt rfl (by omega) (fun h1 => ?_) (fun h1 => ?_)
  · refine z_pushI (z := (-13)) rfl rfl ?_
    refine z_iret rfl rfl ?_
    show zW _ _ _ _ _ _ _ _ _ _
    refine z_istore rfl rfl ?_
    refine z_iload rfl rfl ?_
    refine z_if_geF rfl (by decide) (by decide) ?_
    refine z_iload rfl rfl ?_
    refine z_iret rfl rfl ?_
    refine ⟨_, rfl, ?_⟩
    show zW _ _ _ _ [some (.ref 50), some (zi 0), some (zi i), some (zl v), none, none, none] _ _ _ _ _
    refine z_aload rfl rfl ?_
    refine z_iload rfl rfl ?_
    refine z_iload rfl rfl ?_
    refine z_callVi (As := [_, _]) (le := [some _, some _, some _]) rfl rfl rfl (Nat.le_of_ble_eq_true rfl) (Nat.le_of_ble_eq_true rfl) rfl ?_
    refine z_iload rfl rfl ?_
    refine z_callSi (As := [_]) (le := [some _]) rfl rfl (Nat.le_of_ble_eq_true rfl) (Nat.le_of_ble_eq_true rfl) rfl ?_
    refine z_iload rfl rfl ?_
    refine z_pushI (z := 0) rfl rfl ?_
    refine z_pushI (z := 5) rfl rfl ?_
    refine z_callSi (As := [_, _, _]) (le := [some _, some _, some _]) rfl rfl (Nat.le_of_ble_eq_true rfl) (Nat.le_of_ble_eq_true rfl) rfl ?_
    refine z_iload rfl rfl ?_
    refine z_iload rfl rfl ?_
    refine z_icmp_ltF rfl (by decide) (by decide) (by decide) ?_
    refine z_iload rfl rfl ?_
    refine z_iload rfl rfl ?_
    refine z_icmp_gtF rfl (by decide) (by decide) (by decide) ?_
    refine z_pushI (z := 1) rfl rfl ?_
    refine z_goto rfl ?_
    refine z_bret rfl rfl (by decide) ?_
    show zW _ _ _ _ _ _ _ _ _ _
    refine z_bret rfl rfl (by decide) ?_
    show zW _ _ _ _ _ _ _ _ _ _
    refine z_if_neT rfl (by decide) (by decide) ?_
    refine z_aload rfl rfl ?_
    refine z_getR (r := 83) rfl rfl (hRr _ rm_50_58 (by decide)) ?_
    refine z_iload rfl rfl ?_
    refine z_iald (v := (-3)) rfl rfl (by decide) (by decide) ((e83.trans (by rw [hso]; rfl))) ?_
    refine z_pushI (z := (-1)) rfl rfl ?_
    refine z_icmp_neT rfl (by decide) (by decide) (by decide) ?_
    refine z_aload rfl rfl ?_
    refine z_getR (r := 83) rfl rfl (hRr _ rm_50_58 (by decide)) ?_
    refine z_iload rfl rfl ?_
    refine z_iald (v := (-3)) rfl rfl (by decide) (by decide) ((e83.trans (by rw [hso]; rfl))) ?_
    refine z_if_ltT rfl (by decide) (by decide) ?_
    refine z_iload rfl rfl ?_
    refine z_pushI (z := 0) rfl rfl ?_
    refine z_aload rfl rfl ?_
    refine z_getR (r := 84) rfl rfl (hRr _ rm_50_59 (by decide)) ?_
    refine z_iload rfl rfl ?_
    refine z_iald (v := J 38 3) rfl rfl (by decide) (by decide) (s7) ?_
    refine z_pushI (z := 1) rfl rfl ?_
    refine z_isub (e := (J 38 3) - 1) rfl rfl ?_
    refine z_callSi (As := [_, _, _]) (le := [some _, some _, some _]) rfl rfl (Nat.le_of_ble_eq_true rfl) (Nat.le_of_ble_eq_true rfl) rfl ?_
    refine z_iload rfl rfl ?_
    refine z_iload rfl rfl ?_
    refine z_icmp_ltT rfl (by omega) (by decide) (by omega) ?_
    refine z_pushI (z := 0) rfl rfl ?_
    refine z_bret rfl rfl (by decide) ?_
    show zW _ _ _ _ _ _ _ _ _ _
    refine z_if_eqT rfl (by decide) (by decide) ?_
    refine z_pushI (z := (-13)) rfl rfl ?_
    refine z_iret rfl rfl ?_
    show zW _ _ _ _ _ _ _ _ _ _
    refine z_istore rfl rfl ?_
    refine z_iload rfl rfl ?_
    refine z_if_geF rfl (by decide) (by decide) ?_
    refine z_iload rfl rfl ?_
    refine z_iret rfl rfl ?_
    refine ⟨?_, ?_⟩
    · first | rfl | exact congrArg (fun v => some (zi v)) (by omega) | (exfalso; omega)
    · exact hr
  · refine z_iload rfl rfl ?_
    refine z_aload rfl rfl ?_
    refine z_getI (v := J 38 3) rfl rfl (rfl) ?_
    refine z_icmp_ge rfl (by omega) (by omega) (fun h2 => ?_) (fun h2 => ?_)
    · refine z_pushI (z := (-13)) rfl rfl ?_
      refine z_iret rfl rfl ?_
      show zW _ _ _ _ _ _ _ _ _ _
      refine z_istore rfl rfl ?_
      refine z_iload rfl rfl ?_
      refine z_if_geF rfl (by decide) (by decide) ?_
      refine z_iload rfl rfl ?_
      refine z_iret rfl rfl ?_
      refine ⟨_, rfl, ?_⟩
      show zW _ _ _ _ [some (.ref 50), some (zi 0), some (zi i), some (zl v), none, none, none] _ _ _ _ _
      refine z_aload rfl rfl ?_
      refine z_iload rfl rfl ?_
      refine z_iload rfl rfl ?_
      refine z_callVi (As := [_, _]) (le := [some _, some _, some _]) rfl rfl rfl (Nat.le_of_ble_eq_true rfl) (Nat.le_of_ble_eq_true rfl) rfl ?_
      refine z_iload rfl rfl ?_
      refine z_callSi (As := [_]) (le := [some _]) rfl rfl (Nat.le_of_ble_eq_true rfl) (Nat.le_of_ble_eq_true rfl) rfl ?_
      refine z_iload rfl rfl ?_
      refine z_pushI (z := 0) rfl rfl ?_
      refine z_pushI (z := 5) rfl rfl ?_
      refine z_callSi (As := [_, _, _]) (le := [some _, some _, some _]) rfl rfl (Nat.le_of_ble_eq_true rfl) (Nat.le_of_ble_eq_true rfl) rfl ?_
      refine z_iload rfl rfl ?_
      refine z_iload rfl rfl ?_
      refine z_icmp_ltF rfl (by decide) (by decide) (by decide) ?_
      refine z_iload rfl rfl ?_
      refine z_iload rfl rfl ?_
      refine z_icmp_gtF rfl (by decide) (by decide) (by decide) ?_
      refine z_pushI (z := 1) rfl rfl ?_
      refine z_goto rfl ?_
      refine z_bret rfl rfl (by decide) ?_
      show zW _ _ _ _ _ _ _ _ _ _
      refine z_bret rfl rfl (by decide) ?_
      show zW _ _ _ _ _ _ _ _ _ _
      refine z_if_neT rfl (by decide) (by decide) ?_
      refine z_aload rfl rfl ?_
      refine z_getR (r := 83) rfl rfl (hRr _ rm_50_58 (by decide)) ?_
      refine z_iload rfl rfl ?_
      refine z_iald (v := (-3)) rfl rfl (by decide) (by decide) ((e83.trans (by rw [hso]; rfl))) ?_
      refine z_pushI (z := (-1)) rfl rfl ?_
      refine z_icmp_neT rfl (by decide) (by decide) (by decide) ?_
      refine z_aload rfl rfl ?_
      refine z_getR (r := 83) rfl rfl (hRr _ rm_50_58 (by decide)) ?_
      refine z_iload rfl rfl ?_
      refine z_iald (v := (-3)) rfl rfl (by decide) (by decide) ((e83.trans (by rw [hso]; rfl))) ?_
      refine z_if_ltT rfl (by decide) (by decide) ?_
      refine z_iload rfl rfl ?_
      refine z_pushI (z := 0) rfl rfl ?_
      refine z_aload rfl rfl ?_
      refine z_getR (r := 84) rfl rfl (hRr _ rm_50_59 (by decide)) ?_
      refine z_iload rfl rfl ?_
      refine z_iald (v := J 38 3) rfl rfl (by decide) (by decide) (s7) ?_
      refine z_pushI (z := 1) rfl rfl ?_
      refine z_isub (e := (J 38 3) - 1) rfl rfl ?_
      refine z_callSi (As := [_, _, _]) (le := [some _, some _, some _]) rfl rfl (Nat.le_of_ble_eq_true rfl) (Nat.le_of_ble_eq_true rfl) rfl ?_
      refine z_iload rfl rfl ?_
      refine z_iload rfl rfl ?_
      refine z_icmp_ltF rfl (by omega) (by decide) (by omega) ?_
      refine z_iload rfl rfl ?_
      refine z_iload rfl rfl ?_
      refine z_icmp_gtT rfl (by omega) (by omega) (by omega) ?_
      refine z_pushI (z := 0) rfl rfl ?_
      refine z_bret rfl rfl (by decide) ?_
      show zW _ _ _ _ _ _ _ _ _ _
      refine z_if_eqT rfl (by decide) (by decide) ?_
      refine z_pushI (z := (-13)) rfl rfl ?_
      refine z_iret rfl rfl ?_
      show zW _ _ _ _ _ _ _ _ _ _
      refine z_istore rfl rfl ?_
      refine z_iload rfl rfl ?_
      refine z_if_geF rfl (by decide) (by decide) ?_
      refine z_iload rfl rfl ?_
      refine z_iret rfl rfl ?_
      refine ⟨?_, ?_⟩
      · first | rfl | exact congrArg (fun v => some (zi v)) (by omega) | (exfalso; omega)
      · exact hr
    · refine z_pushI (z := 0) rfl rfl ?_
      refine z_goto rfl ?_
      refine z_iret rfl rfl ?_
      show zW _ _ _ _ _ _ _ _ _ _
      refine z_istore rfl rfl ?_
      refine z_iload rfl rfl ?_
      refine z_if_geT rfl (by decide) (by decide) ?_
      refine z_aload rfl rfl ?_
      refine z_getR (r := 37) rfl rfl (hR _ rm_0_11) ?_
      refine z_iload rfl rfl ?_
      refine z_aald (r := 38) rfl rfl (by decide) (by decide) (hR _ rm_37_0) ?_
      refine z_iload rfl rfl ?_
      refine z_lload rfl rfl ?_
      refine z_callVi (As := [_, _]) (le := [some _, some _, some _, none]) rfl rfl rfl (Nat.le_of_ble_eq_true rfl) (Nat.le_of_ble_eq_true rfl) rfl ?_
      refine z_iload rfl rfl ?_
      refine z_if_ltF rfl (by omega) (by omega) ?_
      refine z_iload rfl rfl ?_
      refine z_aload rfl rfl ?_
      refine z_getI (v := J 38 3) rfl rfl (rfl) ?_
      refine z_icmp_geF rfl (by omega) (by omega) (by omega) ?_
      refine z_aload rfl rfl ?_
      refine z_getR (r := 39) rfl rfl (hR _ rm_38_4) ?_
      refine z_iload rfl rfl ?_
      refine z_aload rfl rfl ?_
      refine z_lload rfl rfl ?_
      refine z_callVi (As := [_]) (le := [some _, some _, none]) rfl rfl rfl (Nat.le_of_ble_eq_true rfl) (Nat.le_of_ble_eq_true rfl) rfl ?_
      refine z_aload rfl rfl ?_
      refine z_getI (v := 1) rfl rfl (hso) ?_
      refine z_swI (tg := 45) rfl (by decide) (T := [((0 : Int), 40), ((1 : Int), 45), ((2 : Int), 50), ((3 : Int), 66), ((4 : Int), 54)]) rfl (by decide) ?_
      refine z_lload rfl rfl ?_
      refine z_l2i rfl ?_
      refine z_i2s (e := zh v) rfl rfl ?_
      have q3 := zh_r v
      refine z_i2l rfl (by omega) ?_
      refine z_lret rfl rfl ?_
      show zW _ _ _ _ _ _ _ _ _ _
      refine z_last (e := zh v) rfl rfl (by decide) (by omega) rfl ?_
      refine z_vret rfl rfl ?_
      show zW _ _ _ _ _ _ _ _ _ _
      refine z_pushI (z := 1) rfl rfl ?_
      refine z_iret rfl rfl ?_
      refine ⟨_, rfl, ?_⟩
      show zW _ _ _ _ [some (.ref 50), some (zi 0), some (zi i), some (zl v), none, none, none] _ _ _ _ _
      refine z_aload rfl rfl ?_
      refine z_iload rfl rfl ?_
      refine z_iload rfl rfl ?_
      refine z_callVi (As := [_, _]) (le := [some _, some _, some _]) rfl rfl rfl (Nat.le_of_ble_eq_true rfl) (Nat.le_of_ble_eq_true rfl) rfl ?_
      refine z_iload rfl rfl ?_
      refine z_callSi (As := [_]) (le := [some _]) rfl rfl (Nat.le_of_ble_eq_true rfl) (Nat.le_of_ble_eq_true rfl) rfl ?_
      refine z_iload rfl rfl ?_
      refine z_pushI (z := 0) rfl rfl ?_
      refine z_pushI (z := 5) rfl rfl ?_
      refine z_callSi (As := [_, _, _]) (le := [some _, some _, some _]) rfl rfl (Nat.le_of_ble_eq_true rfl) (Nat.le_of_ble_eq_true rfl) rfl ?_
      refine z_iload rfl rfl ?_
      refine z_iload rfl rfl ?_
      refine z_icmp_ltF rfl (by decide) (by decide) (by decide) ?_
      refine z_iload rfl rfl ?_
      refine z_iload rfl rfl ?_
      refine z_icmp_gtF rfl (by decide) (by decide) (by decide) ?_
      refine z_pushI (z := 1) rfl rfl ?_
      refine z_goto rfl ?_
      refine z_bret rfl rfl (by decide) ?_
      show zW _ _ _ _ _ _ _ _ _ _
      refine z_bret rfl rfl (by decide) ?_
      show zW _ _ _ _ _ _ _ _ _ _
      refine z_if_neT rfl (by decide) (by decide) ?_
      refine z_aload rfl rfl ?_
      refine z_getR (r := 83) rfl rfl (hRr _ rm_50_58 (by decide)) ?_
      refine z_iload rfl rfl ?_
      refine z_iald (v := (-3)) rfl rfl (by decide) (by decide) ((e83.trans (by rw [hso]; rfl))) ?_
      refine z_pushI (z := (-1)) rfl rfl ?_
      refine z_icmp_neT rfl (by decide) (by decide) (by decide) ?_
      refine z_aload rfl rfl ?_
      refine z_getR (r := 83) rfl rfl (hRr _ rm_50_58 (by decide)) ?_
      refine z_iload rfl rfl ?_
      refine z_iald (v := (-3)) rfl rfl (by decide) (by decide) ((e83.trans (by rw [hso]; rfl))) ?_
      refine z_if_ltT rfl (by decide) (by decide) ?_
      refine z_iload rfl rfl ?_
      refine z_pushI (z := 0) rfl rfl ?_
      refine z_aload rfl rfl ?_
      refine z_getR (r := 84) rfl rfl (hRr _ rm_50_59 (by decide)) ?_
      refine z_iload rfl rfl ?_
      refine z_iald (v := J 38 3) rfl rfl (by decide) (by decide) (s7) ?_
      refine z_pushI (z := 1) rfl rfl ?_
      refine z_isub (e := (J 38 3) - 1) rfl rfl ?_
      refine z_callSi (As := [_, _, _]) (le := [some _, some _, some _]) rfl rfl (Nat.le_of_ble_eq_true rfl) (Nat.le_of_ble_eq_true rfl) rfl ?_
      refine z_iload rfl rfl ?_
      refine z_iload rfl rfl ?_
      refine z_icmp_ltF rfl (by omega) (by decide) (by omega) ?_
      refine z_iload rfl rfl ?_
      refine z_iload rfl rfl ?_
      refine z_icmp_gtF rfl (by omega) (by omega) (by omega) ?_
      refine z_pushI (z := 1) rfl rfl ?_
      refine z_goto rfl ?_
      refine z_bret rfl rfl (by decide) ?_
      show zW _ _ _ _ _ _ _ _ _ _
      refine z_if_eqF rfl (by decide) (by decide) ?_
      refine z_pushI (z := 0) rfl rfl ?_
      refine z_goto rfl ?_
      refine z_iret rfl rfl ?_
      show zW _ _ _ _ _ _ _ _ _ _
      refine z_istore rfl rfl ?_
      refine z_iload rfl rfl ?_
      refine z_if_geT rfl (by decide) (by decide) ?_
      refine z_pushI (z := (-2)) rfl rfl ?_
      refine z_aload rfl rfl ?_
      refine z_getR (r := 83) rfl rfl (hRr _ rm_50_58 (by decide)) ?_
      refine z_iload rfl rfl ?_
      refine z_iald (v := (-3)) rfl rfl (by decide) (by decide) ((e83.trans (by rw [hso]; rfl))) ?_
      refine z_isub (e := 1) rfl rfl ?_
      refine z_istore rfl rfl ?_
      refine z_aload rfl rfl ?_
      refine z_getR (r := 85) rfl rfl (hRr _ rm_50_60 (by decide)) ?_
      refine z_pushI (z := 60) rfl rfl ?_
      refine z_iload rfl rfl ?_
      refine z_imul (e := 0) rfl rfl ?_
      refine z_iload rfl rfl ?_
      refine z_iadd (e := 0 + i) rfl rfl ?_
      refine z_iload rfl rfl ?_
      refine z_if_neT rfl (by decide) (by decide) ?_
      refine z_iload rfl rfl ?_
      refine z_pushI (z := 1) rfl rfl ?_
      refine z_icmp_neF rfl (by decide) (by decide) (by decide) ?_
      refine z_lload rfl rfl ?_
      refine z_l2i rfl ?_
      refine z_i2s (e := zh v) rfl rfl ?_
      have q4 := zh_r v
      refine z_i2l rfl (by omega) ?_
      refine z_goto rfl ?_
      refine z_last (e := zh v) rfl rfl (by decide) (by omega) rfl ?_
      refine z_pushI (z := 1) rfl rfl ?_
      refine z_iret rfl rfl ?_
      refine ⟨?_, ?_⟩
      · first | rfl | exact congrArg (fun v => some (zi v)) (by omega) | (exfalso; omega)
      · have hk := (zK_r (k := (kL [] [])) (A := J))
        have hkm := (zK_x (a := 85) (x := 0 + i) (v := zh v) (zK_x (a := 39) (x := i) (v := zh v) (zK_r (k := (kL [39, 85] [])) (A := M)) rfl) rfl)
        exact ⟨hR, hG, RelY_k hk (by repeat' constructor) (fun p => by repeat' constructor) hY, RelD_k hk (by repeat' constructor) (fun p => by repeat' constructor) hD, RelP_k hk (by repeat' constructor) (fun p => by repeat' constructor) hP, RelC_k hk (by repeat' constructor) (fun p => by repeat' constructor) hC, RelA_k hk (by repeat' constructor) (fun p => by repeat' constructor) hAc, (RelS_one (J := J) (M := M) (c := 0) (fun t t1 t2 te => by have q : t = 0 ∨ t = 1 ∨ t = 2 ∨ t = 3 ∨ t = 4 ∨ t = 5 := (by omega); rcases q with rfl | rfl | rfl | rfl | rfl | rfl <;> first | exact absurd rfl te | exact ⟨fun j => rfl, rfl, rfl⟩) (fun t t1 t2 te => by have q : t = 0 ∨ t = 1 ∨ t = 2 ∨ t = 3 ∨ t = 4 ∨ t = 5 := (by omega); rcases q with rfl | rfl | rfl | rfl | rfl | rfl <;> first | exact absurd rfl te | exact ⟨fun j => rfl, fun j j1 j2 => (zU_x (by omega)).trans (zU_n (by decide))⟩) rfl (show RelS1 _ _ _ from ⟨(hS 0 (by decide) (by decide)).1, (hS 0 (by decide) (by decide)).2.1, s3, s4, (hS 0 (by decide) (by decide)).2.2.2.2.1, fun _ => ⟨s7.symm, fun k k1 k2 => by show (if k = i then zh v else M 39 k) = (if 0 + k = 0 + i then zh v else M 85 (0 + k)); by_cases e : k = i; rw [if_pos e, if_pos (by omega)]; rw [if_neg e, if_neg (by omega)]; exact s8 k k1 k2, (fun hq => absurd (Eq.trans (Eq.symm hq) hso) (by decide))⟩⟩) hS), RelT_k hk (by repeat' constructor) (fun p => by repeat' constructor) hTp, RelX_k hk (by repeat' constructor) (fun p => by repeat' constructor) hX, RelW_k hk ⟨rfl, rfl⟩ trivial hW⟩
theorem st_put_022 {X : Nat × (Nat → Int32)} {d : Nat} {J M : zA} {R : zR} {i v : Int} (hr : Rel X J M R) (hi : -2147483648 ≤ i ∧ i < 2147483648) (hv : -9223372036854775808 ≤ v ∧ v < 9223372036854775808) (hh : J 38 0 = 2) (hso : J 38 2 = 2) : zW X (d + 20) 138 0 (gEn 138 [(.ref 0), (zi 0), (zi i), (zl v)]) [] J M R (stP X (d + 20) 252 [(zi 0), (zi i), (zl v)]) := by
  have hr0 := hr
  obtain ⟨hR, hG, hY, hD, hP, hC, hAc, hS, hTp, hX, hW⟩ := hr0
  have hRr : zRoR R := zRoR_of hR
  have e83 : J 83 0 = -2 - J 38 2 := (hS 0 (by decide) (by decide)).1.symm.trans (cH_2 hh)
  have s3 : 0 ≤ J 38 2 ∧ J 38 2 ≤ 4 := (hS 0 (by decide) (by decide)).2.2.1
  have s4 : 0 ≤ J 38 3 ∧ J 38 3 ≤ 60 := (hS 0 (by decide) (by decide)).2.2.2.1
  have s6 := (hS 0 (by decide) (by decide)).2.2.2.2.2 hh
  have s7 : J 84 0 = J 38 3 := s6.1.symm
  have s8 : ∀ i, 0 ≤ i → i < J 38 3 → M 39 i = M 85 (0 + i) := s6.2.1
  show zW _ _ _ _ [some (.ref 0), some (zi 0), some (zi i), some (zl v), none, none] _ _ _ _ _
  refine z_iload rfl rfl ?_
  refine z_callSi (As := [_]) (le := [some _]) rfl rfl (Nat.le_of_ble_eq_true rfl) (Nat.le_of_ble_eq_true rfl) rfl ?_
  refine z_iload rfl rfl ?_
  refine z_if_ltF rfl (by decide) (by decide) ?_
  refine z_iload rfl rfl ?_
  refine z_pushI (z := 6) rfl rfl ?_
  refine z_icmp_geF rfl (by decide) (by decide) (by decide) ?_
  refine z_pushI (z := 1) rfl rfl ?_
  refine z_goto rfl ?_
  refine z_bret rfl rfl (by decide) ?_
  show zW _ _ _ _ _ _ _ _ _ _
  refine z_if_neT rfl (by decide) (by decide) ?_
  refine z_aload rfl rfl ?_
  refine z_getR (r := 37) rfl rfl (hR _ rm_0_11) ?_
  refine z_iload rfl rfl ?_
  refine z_aald (r := 38) rfl rfl (by decide) (by decide) (hR _ rm_37_0) ?_
  refine z_iload rfl rfl ?_
  refine z_callVi (As := [_]) (le := [some _, some _]) rfl rfl rfl (Nat.le_of_ble_eq_true rfl) (Nat.le_of_ble_eq_true rfl) rfl ?_
  refine z_aload rfl rfl ?_
  refine z_getI (v := 2) rfl rfl (hh) ?_
  refine z_if_neT rfl (by decide) (by decide) ?_
  refine z_aload rfl rfl ?_
  refine z_getI (v := 2) rfl rfl (hh) ?_
  refine z_pushI (z := 2) rfl rfl ?_
  refine z_icmp_eqT rfl (by decide) (by decide) (by decide) ?_
  refine z_iload rfl rfl ?_
  refine z_if_lt rfl (by omega) (fun h1 => ?_) (fun h1 => ?_)
  · refine z_pushI (z := (-13)) rfl rfl ?_
    refine z_iret rfl rfl ?_
    show zW _ _ _ _ _ _ _ _ _ _
    refine z_istore rfl rfl ?_
    refine z_iload rfl rfl ?_
    refine z_if_geF rfl (by decide) (by decide) ?_
    refine z_iload rfl rfl ?_
    refine z_iret rfl rfl ?_
    refine ⟨_, rfl, ?_⟩
    show zW _ _ _ _ [some (.ref 50), some (zi 0), some (zi i), some (zl v), none, none, none] _ _ _ _ _
    refine z_aload rfl rfl ?_
    refine z_iload rfl rfl ?_
    refine z_iload rfl rfl ?_
    refine z_callVi (As := [_, _]) (le := [some _, some _, some _]) rfl rfl rfl (Nat.le_of_ble_eq_true rfl) (Nat.le_of_ble_eq_true rfl) rfl ?_
    refine z_iload rfl rfl ?_
    refine z_callSi (As := [_]) (le := [some _]) rfl rfl (Nat.le_of_ble_eq_true rfl) (Nat.le_of_ble_eq_true rfl) rfl ?_
    refine z_iload rfl rfl ?_
    refine z_pushI (z := 0) rfl rfl ?_
    refine z_pushI (z := 5) rfl rfl ?_
    refine z_callSi (As := [_, _, _]) (le := [some _, some _, some _]) rfl rfl (Nat.le_of_ble_eq_true rfl) (Nat.le_of_ble_eq_true rfl) rfl ?_
    refine z_iload rfl rfl ?_
    refine z_iload rfl rfl ?_
    refine z_icmp_ltF rfl (by decide) (by decide) (by decide) ?_
    refine z_iload rfl rfl ?_
    refine z_iload rfl rfl ?_
    refine z_icmp_gtF rfl (by decide) (by decide) (by decide) ?_
    refine z_pushI (z := 1) rfl rfl ?_
    refine z_goto rfl ?_
    refine z_bret rfl rfl (by decide) ?_
    show zW _ _ _ _ _ _ _ _ _ _
    refine z_bret rfl rfl (by decide) ?_
    show zW _ _ _ _ _ _ _ _ _ _
    refine z_if_neT rfl (by decide) (by decide) ?_
    refine z_aload rfl rfl ?_
    refine z_getR (r := 83) rfl rfl (hRr _ rm_50_58 (by decide)) ?_
    refine z_iload rfl rfl ?_
    refine z_iald (v := (-4)) rfl rfl (by decide) (by decide) ((e83.trans (by rw [hso]; rfl))) ?_
    refine z_pushI (z := (-1)) rfl rfl ?_
    refine z_icmp_neT rfl (by decide) (by decide) (by decide) ?_
    refine z_aload rfl rfl ?_
    refine z_getR (r := 83) rfl rfl (hRr _ rm_50_58 (by decide)) ?_
    refine z_iload rfl rfl ?_
    refine z_iald (v := (-4)) rfl rfl (by decide) (by decide) ((e83.trans (by rw [hso]; rfl))) ?_
    refine z_if_ltT rfl (by decide) (by decide) ?_
    refine z_iload rfl rfl ?_
    refine z_pushI (z := 0) rfl rfl ?_
    refine z_aload rfl rfl ?_
    refine z_getR (r := 84) rfl rfl (hRr _ rm_50_59 (by decide)) ?_
    refine z_iload rfl rfl ?_
    refine z_iald (v := J 38 3) rfl rfl (by decide) (by decide) (s7) ?_
    refine z_pushI (z := 1) rfl rfl ?_
    refine z_isub (e := (J 38 3) - 1) rfl rfl ?_
    refine z_callSi (As := [_, _, _]) (le := [some _, some _, some _]) rfl rfl (Nat.le_of_ble_eq_true rfl) (Nat.le_of_ble_eq_true rfl) rfl ?_
    refine z_iload rfl rfl ?_
    refine z_iload rfl rfl ?_
    refine z_icmp_ltT rfl (by omega) (by decide) (by omega) ?_
    refine z_pushI (z := 0) rfl rfl ?_
    refine z_bret rfl rfl (by decide) ?_
    show zW _ _ _ _ _ _ _ _ _ _
    refine z_if_eqT rfl (by decide) (by decide) ?_
    refine z_pushI (z := (-13)) rfl rfl ?_
    refine z_iret rfl rfl ?_
    show zW _ _ _ _ _ _ _ _ _ _
    refine z_istore rfl rfl ?_
    refine z_iload rfl rfl ?_
    refine z_if_geF rfl (by decide) (by decide) ?_
    refine z_iload rfl rfl ?_
    refine z_iret rfl rfl ?_
    refine ⟨?_, ?_⟩
    · first | rfl | exact congrArg (fun v => some (zi v)) (by omega) | (exfalso; omega)
    · exact hr
  · refine z_iload rfl rfl ?_
    refine z_aload rfl rfl ?_
    refine z_getI (v := J 38 3) rfl rfl (rfl) ?_
    refine z_icmp_ge rfl (by omega) (by omega) (fun h2 => ?_) (fun h2 => ?_)
    · refine z_pushI (z := (-13)) rfl rfl ?_
      refine z_iret rfl rfl ?_
      show zW _ _ _ _ _ _ _ _ _ _
      refine z_istore rfl rfl ?_
      refine z_iload rfl rfl ?_
      refine z_if_geF rfl (by decide) (by decide) ?_
      refine z_iload rfl rfl ?_
      refine z_iret rfl rfl ?_
      refine ⟨_, rfl, ?_⟩
      show zW _ _ _ _ [some (.ref 50), some (zi 0), some (zi i), some (zl v), none, none, none] _ _ _ _ _
      refine z_aload rfl rfl ?_
      refine z_iload rfl rfl ?_
      refine z_iload rfl rfl ?_
      refine z_callVi (As := [_, _]) (le := [some _, some _, some _]) rfl rfl rfl (Nat.le_of_ble_eq_true rfl) (Nat.le_of_ble_eq_true rfl) rfl ?_
      refine z_iload rfl rfl ?_
      refine z_callSi (As := [_]) (le := [some _]) rfl rfl (Nat.le_of_ble_eq_true rfl) (Nat.le_of_ble_eq_true rfl) rfl ?_
      refine z_iload rfl rfl ?_
      refine z_pushI (z := 0) rfl rfl ?_
      refine z_pushI (z := 5) rfl rfl ?_
      refine z_callSi (As := [_, _, _]) (le := [some _, some _, some _]) rfl rfl (Nat.le_of_ble_eq_true rfl) (Nat.le_of_ble_eq_true rfl) rfl ?_
      refine z_iload rfl rfl ?_
      refine z_iload rfl rfl ?_
      refine z_icmp_ltF rfl (by decide) (by decide) (by decide) ?_
      refine z_iload rfl rfl ?_
      refine z_iload rfl rfl ?_
      refine z_icmp_gtF rfl (by decide) (by decide) (by decide) ?_
      refine z_pushI (z := 1) rfl rfl ?_
      refine z_goto rfl ?_
      refine z_bret rfl rfl (by decide) ?_
      show zW _ _ _ _ _ _ _ _ _ _
      refine z_bret rfl rfl (by decide) ?_
      show zW _ _ _ _ _ _ _ _ _ _
      refine z_if_neT rfl (by decide) (by decide) ?_
      refine z_aload rfl rfl ?_
      refine z_getR (r := 83) rfl rfl (hRr _ rm_50_58 (by decide)) ?_
      refine z_iload rfl rfl ?_
      refine z_iald (v := (-4)) rfl rfl (by decide) (by decide) ((e83.trans (by rw [hso]; rfl))) ?_
      refine z_pushI (z := (-1)) rfl rfl ?_
      refine z_icmp_neT rfl (by decide) (by decide) (by decide) ?_
      refine z_aload rfl rfl ?_
      refine z_getR (r := 83) rfl rfl (hRr _ rm_50_58 (by decide)) ?_
      refine z_iload rfl rfl ?_
      refine z_iald (v := (-4)) rfl rfl (by decide) (by decide) ((e83.trans (by rw [hso]; rfl))) ?_
      refine z_if_ltT rfl (by decide) (by decide) ?_
      refine z_iload rfl rfl ?_
      refine z_pushI (z := 0) rfl rfl ?_
      refine z_aload rfl rfl ?_
      refine z_getR (r := 84) rfl rfl (hRr _ rm_50_59 (by decide)) ?_
      refine z_iload rfl rfl ?_
      refine z_iald (v := J 38 3) rfl rfl (by decide) (by decide) (s7) ?_
      refine z_pushI (z := 1) rfl rfl ?_
      refine z_isub (e := (J 38 3) - 1) rfl rfl ?_
      refine z_callSi (As := [_, _, _]) (le := [some _, some _, some _]) rfl rfl (Nat.le_of_ble_eq_true rfl) (Nat.le_of_ble_eq_true rfl) rfl ?_
      refine z_iload rfl rfl ?_
      refine z_iload rfl rfl ?_
      refine z_icmp_ltF rfl (by omega) (by decide) (by omega) ?_
      refine z_iload rfl rfl ?_
      refine z_iload rfl rfl ?_
      refine z_icmp_gtT rfl (by omega) (by omega) (by omega) ?_
      refine z_pushI (z := 0) rfl rfl ?_
      refine z_bret rfl rfl (by decide) ?_
      show zW _ _ _ _ _ _ _ _ _ _
      refine z_if_eqT rfl (by decide) (by decide) ?_
      refine z_pushI (z := (-13)) rfl rfl ?_
      refine z_iret rfl rfl ?_
      show zW _ _ _ _ _ _ _ _ _ _
      refine z_istore rfl rfl ?_
      refine z_iload rfl rfl ?_
      refine z_if_geF rfl (by decide) (by decide) ?_
      refine z_iload rfl rfl ?_
      refine z_iret rfl rfl ?_
      refine ⟨?_, ?_⟩
      · first | rfl | exact congrArg (fun v => some (zi v)) (by omega) | (exfalso; omega)
      · exact hr
    · refine z_pushI (z := 0) rfl rfl ?_
      refine z_goto rfl ?_
      refine z_iret rfl rfl ?_
      show zW _ _ _ _ _ _ _ _ _ _
      refine z_istore rfl rfl ?_
      refine z_iload rfl rfl ?_
      refine z_if_geT rfl (by decide) (by decide) ?_
      refine z_aload rfl rfl ?_
      refine z_getR (r := 37) rfl rfl (hR _ rm_0_11) ?_
      refine z_iload rfl rfl ?_
      refine z_aald (r := 38) rfl rfl (by decide) (by decide) (hR _ rm_37_0) ?_
      refine z_iload rfl rfl ?_
      refine z_lload rfl rfl ?_
      refine z_callVi (As := [_, _]) (le := [some _, some _, some _, none]) rfl rfl rfl (Nat.le_of_ble_eq_true rfl) (Nat.le_of_ble_eq_true rfl) rfl ?_
      refine z_iload rfl rfl ?_
      refine z_if_ltF rfl (by omega) (by omega) ?_
      refine z_iload rfl rfl ?_
      refine z_aload rfl rfl ?_
      refine z_getI (v := J 38 3) rfl rfl (rfl) ?_
      refine z_icmp_geF rfl (by omega) (by omega) (by omega) ?_
      refine z_aload rfl rfl ?_
      refine z_getR (r := 39) rfl rfl (hR _ rm_38_4) ?_
      refine z_iload rfl rfl ?_
      refine z_aload rfl rfl ?_
      refine z_lload rfl rfl ?_
      refine z_callVi (As := [_]) (le := [some _, some _, none]) rfl rfl rfl (Nat.le_of_ble_eq_true rfl) (Nat.le_of_ble_eq_true rfl) rfl ?_
      refine z_aload rfl rfl ?_
      refine z_getI (v := 2) rfl rfl (hso) ?_
      refine z_swI (tg := 50) rfl (by decide) (T := [((0 : Int), 40), ((1 : Int), 45), ((2 : Int), 50), ((3 : Int), 66), ((4 : Int), 54)]) rfl (by decide) ?_
      refine z_lload rfl rfl ?_
      refine z_l2i rfl ?_
      refine z_topn (e := zn v) rfl ?_
      have q3 := zn_r v
      refine z_i2l rfl (by omega) ?_
      refine z_lret rfl rfl ?_
      show zW _ _ _ _ _ _ _ _ _ _
      refine z_last (e := zn v) rfl rfl (by decide) (by omega) rfl ?_
      refine z_vret rfl rfl ?_
      show zW _ _ _ _ _ _ _ _ _ _
      refine z_pushI (z := 1) rfl rfl ?_
      refine z_iret rfl rfl ?_
      refine ⟨_, rfl, ?_⟩
      show zW _ _ _ _ [some (.ref 50), some (zi 0), some (zi i), some (zl v), none, none, none] _ _ _ _ _
      refine z_aload rfl rfl ?_
      refine z_iload rfl rfl ?_
      refine z_iload rfl rfl ?_
      refine z_callVi (As := [_, _]) (le := [some _, some _, some _]) rfl rfl rfl (Nat.le_of_ble_eq_true rfl) (Nat.le_of_ble_eq_true rfl) rfl ?_
      refine z_iload rfl rfl ?_
      refine z_callSi (As := [_]) (le := [some _]) rfl rfl (Nat.le_of_ble_eq_true rfl) (Nat.le_of_ble_eq_true rfl) rfl ?_
      refine z_iload rfl rfl ?_
      refine z_pushI (z := 0) rfl rfl ?_
      refine z_pushI (z := 5) rfl rfl ?_
      refine z_callSi (As := [_, _, _]) (le := [some _, some _, some _]) rfl rfl (Nat.le_of_ble_eq_true rfl) (Nat.le_of_ble_eq_true rfl) rfl ?_
      refine z_iload rfl rfl ?_
      refine z_iload rfl rfl ?_
      refine z_icmp_ltF rfl (by decide) (by decide) (by decide) ?_
      refine z_iload rfl rfl ?_
      refine z_iload rfl rfl ?_
      refine z_icmp_gtF rfl (by decide) (by decide) (by decide) ?_
      refine z_pushI (z := 1) rfl rfl ?_
      refine z_goto rfl ?_
      refine z_bret rfl rfl (by decide) ?_
      show zW _ _ _ _ _ _ _ _ _ _
      refine z_bret rfl rfl (by decide) ?_
      show zW _ _ _ _ _ _ _ _ _ _
      refine z_if_neT rfl (by decide) (by decide) ?_
      refine z_aload rfl rfl ?_
      refine z_getR (r := 83) rfl rfl (hRr _ rm_50_58 (by decide)) ?_
      refine z_iload rfl rfl ?_
      refine z_iald (v := (-4)) rfl rfl (by decide) (by decide) ((e83.trans (by rw [hso]; rfl))) ?_
      refine z_pushI (z := (-1)) rfl rfl ?_
      refine z_icmp_neT rfl (by decide) (by decide) (by decide) ?_
      refine z_aload rfl rfl ?_
      refine z_getR (r := 83) rfl rfl (hRr _ rm_50_58 (by decide)) ?_
      refine z_iload rfl rfl ?_
      refine z_iald (v := (-4)) rfl rfl (by decide) (by decide) ((e83.trans (by rw [hso]; rfl))) ?_
      refine z_if_ltT rfl (by decide) (by decide) ?_
      refine z_iload rfl rfl ?_
      refine z_pushI (z := 0) rfl rfl ?_
      refine z_aload rfl rfl ?_
      refine z_getR (r := 84) rfl rfl (hRr _ rm_50_59 (by decide)) ?_
      refine z_iload rfl rfl ?_
      refine z_iald (v := J 38 3) rfl rfl (by decide) (by decide) (s7) ?_
      refine z_pushI (z := 1) rfl rfl ?_
      refine z_isub (e := (J 38 3) - 1) rfl rfl ?_
      refine z_callSi (As := [_, _, _]) (le := [some _, some _, some _]) rfl rfl (Nat.le_of_ble_eq_true rfl) (Nat.le_of_ble_eq_true rfl) rfl ?_
      refine z_iload rfl rfl ?_
      refine z_iload rfl rfl ?_
      refine z_icmp_ltF rfl (by omega) (by decide) (by omega) ?_
      refine z_iload rfl rfl ?_
      refine z_iload rfl rfl ?_
      refine z_icmp_gtF rfl (by omega) (by omega) (by omega) ?_
      refine z_pushI (z := 1) rfl rfl ?_
      refine z_goto rfl ?_
      refine z_bret rfl rfl (by decide) ?_
      show zW _ _ _ _ _ _ _ _ _ _
      refine z_if_eqF rfl (by decide) (by decide) ?_
      refine z_pushI (z := 0) rfl rfl ?_
      refine z_goto rfl ?_
      refine z_iret rfl rfl ?_
      show zW _ _ _ _ _ _ _ _ _ _
      refine z_istore rfl rfl ?_
      refine z_iload rfl rfl ?_
      refine z_if_geT rfl (by decide) (by decide) ?_
      refine z_pushI (z := (-2)) rfl rfl ?_
      refine z_aload rfl rfl ?_
      refine z_getR (r := 83) rfl rfl (hRr _ rm_50_58 (by decide)) ?_
      refine z_iload rfl rfl ?_
      refine z_iald (v := (-4)) rfl rfl (by decide) (by decide) ((e83.trans (by rw [hso]; rfl))) ?_
      refine z_isub (e := 2) rfl rfl ?_
      refine z_istore rfl rfl ?_
      refine z_aload rfl rfl ?_
      refine z_getR (r := 85) rfl rfl (hRr _ rm_50_60 (by decide)) ?_
      refine z_pushI (z := 60) rfl rfl ?_
      refine z_iload rfl rfl ?_
      refine z_imul (e := 0) rfl rfl ?_
      refine z_iload rfl rfl ?_
      refine z_iadd (e := 0 + i) rfl rfl ?_
      refine z_iload rfl rfl ?_
      refine z_if_neT rfl (by decide) (by decide) ?_
      refine z_iload rfl rfl ?_
      refine z_pushI (z := 1) rfl rfl ?_
      refine z_icmp_neT rfl (by decide) (by decide) (by decide) ?_
      refine z_iload rfl rfl ?_
      refine z_pushI (z := 2) rfl rfl ?_
      refine z_icmp_neF rfl (by decide) (by decide) (by decide) ?_
      refine z_lload rfl rfl ?_
      refine z_l2i rfl ?_
      refine z_topn (e := zn v) rfl ?_
      have q4 := zn_r v
      refine z_i2l rfl (by omega) ?_
      refine z_goto rfl ?_
      refine z_last (e := zn v) rfl rfl (by decide) (by omega) rfl ?_
      refine z_pushI (z := 1) rfl rfl ?_
      refine z_iret rfl rfl ?_
      refine ⟨?_, ?_⟩
      · first | rfl | exact congrArg (fun v => some (zi v)) (by omega) | (exfalso; omega)
      · have hk := (zK_r (k := (kL [] [])) (A := J))
        have hkm := (zK_x (a := 85) (x := 0 + i) (v := zn v) (zK_x (a := 39) (x := i) (v := zn v) (zK_r (k := (kL [39, 85] [])) (A := M)) rfl) rfl)
        exact ⟨hR, hG, RelY_k hk (by repeat' constructor) (fun p => by repeat' constructor) hY, RelD_k hk (by repeat' constructor) (fun p => by repeat' constructor) hD, RelP_k hk (by repeat' constructor) (fun p => by repeat' constructor) hP, RelC_k hk (by repeat' constructor) (fun p => by repeat' constructor) hC, RelA_k hk (by repeat' constructor) (fun p => by repeat' constructor) hAc, (RelS_one (J := J) (M := M) (c := 0) (fun t t1 t2 te => by have q : t = 0 ∨ t = 1 ∨ t = 2 ∨ t = 3 ∨ t = 4 ∨ t = 5 := (by omega); rcases q with rfl | rfl | rfl | rfl | rfl | rfl <;> first | exact absurd rfl te | exact ⟨fun j => rfl, rfl, rfl⟩) (fun t t1 t2 te => by have q : t = 0 ∨ t = 1 ∨ t = 2 ∨ t = 3 ∨ t = 4 ∨ t = 5 := (by omega); rcases q with rfl | rfl | rfl | rfl | rfl | rfl <;> first | exact absurd rfl te | exact ⟨fun j => rfl, fun j j1 j2 => (zU_x (by omega)).trans (zU_n (by decide))⟩) rfl (show RelS1 _ _ _ from ⟨(hS 0 (by decide) (by decide)).1, (hS 0 (by decide) (by decide)).2.1, s3, s4, (hS 0 (by decide) (by decide)).2.2.2.2.1, fun _ => ⟨s7.symm, fun k k1 k2 => by show (if k = i then zn v else M 39 k) = (if 0 + k = 0 + i then zn v else M 85 (0 + k)); by_cases e : k = i; rw [if_pos e, if_pos (by omega)]; rw [if_neg e, if_neg (by omega)]; exact s8 k k1 k2, (fun hq => absurd (Eq.trans (Eq.symm hq) hso) (by decide))⟩⟩) hS), RelT_k hk (by repeat' constructor) (fun p => by repeat' constructor) hTp, RelX_k hk (by repeat' constructor) (fun p => by repeat' constructor) hX, RelW_k hk ⟨rfl, rfl⟩ trivial hW⟩
theorem st_put_023 {X : Nat × (Nat → Int32)} {d : Nat} {J M : zA} {R : zR} {i v : Int} (hr : Rel X J M R) (hi : -2147483648 ≤ i ∧ i < 2147483648) (hv : -9223372036854775808 ≤ v ∧ v < 9223372036854775808) (hh : J 38 0 = 2) (hso : J 38 2 = 3) : zW X (d + 20) 138 0 (gEn 138 [(.ref 0), (zi 0), (zi i), (zl v)]) [] J M R (stP X (d + 20) 252 [(zi 0), (zi i), (zl v)]) := by
  have hr0 := hr
  obtain ⟨hR, hG, hY, hD, hP, hC, hAc, hS, hTp, hX, hW⟩ := hr0
  have hRr : zRoR R := zRoR_of hR
  have e83 : J 83 0 = -2 - J 38 2 := (hS 0 (by decide) (by decide)).1.symm.trans (cH_2 hh)
  have s3 : 0 ≤ J 38 2 ∧ J 38 2 ≤ 4 := (hS 0 (by decide) (by decide)).2.2.1
  have s4 : 0 ≤ J 38 3 ∧ J 38 3 ≤ 60 := (hS 0 (by decide) (by decide)).2.2.2.1
  have s6 := (hS 0 (by decide) (by decide)).2.2.2.2.2 hh
  have s7 : J 84 0 = J 38 3 := s6.1.symm
  have s8 : ∀ i, 0 ≤ i → i < J 38 3 → M 39 i = M 85 (0 + i) := s6.2.1
  show zW _ _ _ _ [some (.ref 0), some (zi 0), some (zi i), some (zl v), none, none] _ _ _ _ _
  refine z_iload rfl rfl ?_
  refine z_callSi (As := [_]) (le := [some _]) rfl rfl (Nat.le_of_ble_eq_true rfl) (Nat.le_of_ble_eq_true rfl) rfl ?_
  refine z_iload rfl rfl ?_
  refine z_if_ltF rfl (by decide) (by decide) ?_
  refine z_iload rfl rfl ?_
  refine z_pushI (z := 6) rfl rfl ?_
  refine z_icmp_geF rfl (by decide) (by decide) (by decide) ?_
  refine z_pushI (z := 1) rfl rfl ?_
  refine z_goto rfl ?_
  refine z_bret rfl rfl (by decide) ?_
  show zW _ _ _ _ _ _ _ _ _ _
  refine z_if_neT rfl (by decide) (by decide) ?_
  refine z_aload rfl rfl ?_
  refine z_getR (r := 37) rfl rfl (hR _ rm_0_11) ?_
  refine z_iload rfl rfl ?_
  refine z_aald (r := 38) rfl rfl (by decide) (by decide) (hR _ rm_37_0) ?_
  refine z_iload rfl rfl ?_
  refine z_callVi (As := [_]) (le := [some _, some _]) rfl rfl rfl (Nat.le_of_ble_eq_true rfl) (Nat.le_of_ble_eq_true rfl) rfl ?_
  refine z_aload rfl rfl ?_
  refine z_getI (v := 2) rfl rfl (hh) ?_
  refine z_if_neT rfl (by decide) (by decide) ?_
  refine z_aload rfl rfl ?_
  refine z_getI (v := 2) rfl rfl (hh) ?_
  refine z_pushI (z := 2) rfl rfl ?_
  refine z_icmp_eqT rfl (by decide) (by decide) (by decide) ?_
  refine z_iload rfl rfl ?_
  refine z_if_lt rfl (by omega) (fun h1 => ?_) (fun h1 => ?_)
  · refine z_pushI (z := (-13)) rfl rfl ?_
    refine z_iret rfl rfl ?_
    show zW _ _ _ _ _ _ _ _ _ _
    refine z_istore rfl rfl ?_
    refine z_iload rfl rfl ?_
    refine z_if_geF rfl (by decide) (by decide) ?_
    refine z_iload rfl rfl ?_
    refine z_iret rfl rfl ?_
    refine ⟨_, rfl, ?_⟩
    show zW _ _ _ _ [some (.ref 50), some (zi 0), some (zi i), some (zl v), none, none, none] _ _ _ _ _
    refine z_aload rfl rfl ?_
    refine z_iload rfl rfl ?_
    refine z_iload rfl rfl ?_
    refine z_callVi (As := [_, _]) (le := [some _, some _, some _]) rfl rfl rfl (Nat.le_of_ble_eq_true rfl) (Nat.le_of_ble_eq_true rfl) rfl ?_
    refine z_iload rfl rfl ?_
    refine z_callSi (As := [_]) (le := [some _]) rfl rfl (Nat.le_of_ble_eq_true rfl) (Nat.le_of_ble_eq_true rfl) rfl ?_
    refine z_iload rfl rfl ?_
    refine z_pushI (z := 0) rfl rfl ?_
    refine z_pushI (z := 5) rfl rfl ?_
    refine z_callSi (As := [_, _, _]) (le := [some _, some _, some _]) rfl rfl (Nat.le_of_ble_eq_true rfl) (Nat.le_of_ble_eq_true rfl) rfl ?_
    refine z_iload rfl rfl ?_
    refine z_iload rfl rfl ?_
    refine z_icmp_ltF rfl (by decide) (by decide) (by decide) ?_
    refine z_iload rfl rfl ?_
    refine z_iload rfl rfl ?_
    refine z_icmp_gtF rfl (by decide) (by decide) (by decide) ?_
    refine z_pushI (z := 1) rfl rfl ?_
    refine z_goto rfl ?_
    refine z_bret rfl rfl (by decide) ?_
    show zW _ _ _ _ _ _ _ _ _ _
    refine z_bret rfl rfl (by decide) ?_
    show zW _ _ _ _ _ _ _ _ _ _
    refine z_if_neT rfl (by decide) (by decide) ?_
    refine z_aload rfl rfl ?_
    refine z_getR (r := 83) rfl rfl (hRr _ rm_50_58 (by decide)) ?_
    refine z_iload rfl rfl ?_
    refine z_iald (v := (-5)) rfl rfl (by decide) (by decide) ((e83.trans (by rw [hso]; rfl))) ?_
    refine z_pushI (z := (-1)) rfl rfl ?_
    refine z_icmp_neT rfl (by decide) (by decide) (by decide) ?_
    refine z_aload rfl rfl ?_
    refine z_getR (r := 83) rfl rfl (hRr _ rm_50_58 (by decide)) ?_
    refine z_iload rfl rfl ?_
    refine z_iald (v := (-5)) rfl rfl (by decide) (by decide) ((e83.trans (by rw [hso]; rfl))) ?_
    refine z_if_ltT rfl (by decide) (by decide) ?_
    refine z_iload rfl rfl ?_
    refine z_pushI (z := 0) rfl rfl ?_
    refine z_aload rfl rfl ?_
    refine z_getR (r := 84) rfl rfl (hRr _ rm_50_59 (by decide)) ?_
    refine z_iload rfl rfl ?_
    refine z_iald (v := J 38 3) rfl rfl (by decide) (by decide) (s7) ?_
    refine z_pushI (z := 1) rfl rfl ?_
    refine z_isub (e := (J 38 3) - 1) rfl rfl ?_
    refine z_callSi (As := [_, _, _]) (le := [some _, some _, some _]) rfl rfl (Nat.le_of_ble_eq_true rfl) (Nat.le_of_ble_eq_true rfl) rfl ?_
    refine z_iload rfl rfl ?_
    refine z_iload rfl rfl ?_
    refine z_icmp_ltT rfl (by omega) (by decide) (by omega) ?_
    refine z_pushI (z := 0) rfl rfl ?_
    refine z_bret rfl rfl (by decide) ?_
    show zW _ _ _ _ _ _ _ _ _ _
    refine z_if_eqT rfl (by decide) (by decide) ?_
    refine z_pushI (z := (-13)) rfl rfl ?_
    refine z_iret rfl rfl ?_
    show zW _ _ _ _ _ _ _ _ _ _
    refine z_istore rfl rfl ?_
    refine z_iload rfl rfl ?_
    refine z_if_geF rfl (by decide) (by decide) ?_
    refine z_iload rfl rfl ?_
    refine z_iret rfl rfl ?_
    refine ⟨?_, ?_⟩
    · first | rfl | exact congrArg (fun v => some (zi v)) (by omega) | (exfalso; omega)
    · exact hr
  · refine z_iload rfl rfl ?_
    refine z_aload rfl rfl ?_
    refine z_getI (v := J 38 3) rfl rfl (rfl) ?_
    refine z_icmp_ge rfl (by omega) (by omega) (fun h2 => ?_) (fun h2 => ?_)
    · refine z_pushI (z := (-13)) rfl rfl ?_
      refine z_iret rfl rfl ?_
      show zW _ _ _ _ _ _ _ _ _ _
      refine z_istore rfl rfl ?_
      refine z_iload rfl rfl ?_
      refine z_if_geF rfl (by decide) (by decide) ?_
      refine z_iload rfl rfl ?_
      refine z_iret rfl rfl ?_
      refine ⟨_, rfl, ?_⟩
      show zW _ _ _ _ [some (.ref 50), some (zi 0), some (zi i), some (zl v), none, none, none] _ _ _ _ _
      refine z_aload rfl rfl ?_
      refine z_iload rfl rfl ?_
      refine z_iload rfl rfl ?_
      refine z_callVi (As := [_, _]) (le := [some _, some _, some _]) rfl rfl rfl (Nat.le_of_ble_eq_true rfl) (Nat.le_of_ble_eq_true rfl) rfl ?_
      refine z_iload rfl rfl ?_
      refine z_callSi (As := [_]) (le := [some _]) rfl rfl (Nat.le_of_ble_eq_true rfl) (Nat.le_of_ble_eq_true rfl) rfl ?_
      refine z_iload rfl rfl ?_
      refine z_pushI (z := 0) rfl rfl ?_
      refine z_pushI (z := 5) rfl rfl ?_
      refine z_callSi (As := [_, _, _]) (le := [some _, some _, some _]) rfl rfl (Nat.le_of_ble_eq_true rfl) (Nat.le_of_ble_eq_true rfl) rfl ?_
      refine z_iload rfl rfl ?_
      refine z_iload rfl rfl ?_
      refine z_icmp_ltF rfl (by decide) (by decide) (by decide) ?_
      refine z_iload rfl rfl ?_
      refine z_iload rfl rfl ?_
      refine z_icmp_gtF rfl (by decide) (by decide) (by decide) ?_
      refine z_pushI (z := 1) rfl rfl ?_
      refine z_goto rfl ?_
      refine z_bret rfl rfl (by decide) ?_
      show zW _ _ _ _ _ _ _ _ _ _
      refine z_bret rfl rfl (by decide) ?_
      show zW _ _ _ _ _ _ _ _ _ _
      refine z_if_neT rfl (by decide) (by decide) ?_
      refine z_aload rfl rfl ?_
      refine z_getR (r := 83) rfl rfl (hRr _ rm_50_58 (by decide)) ?_
      refine z_iload rfl rfl ?_
      refine z_iald (v := (-5)) rfl rfl (by decide) (by decide) ((e83.trans (by rw [hso]; rfl))) ?_
      refine z_pushI (z := (-1)) rfl rfl ?_
      refine z_icmp_neT rfl (by decide) (by decide) (by decide) ?_
      refine z_aload rfl rfl ?_
      refine z_getR (r := 83) rfl rfl (hRr _ rm_50_58 (by decide)) ?_
      refine z_iload rfl rfl ?_
      refine z_iald (v := (-5)) rfl rfl (by decide) (by decide) ((e83.trans (by rw [hso]; rfl))) ?_
      refine z_if_ltT rfl (by decide) (by decide) ?_
      refine z_iload rfl rfl ?_
      refine z_pushI (z := 0) rfl rfl ?_
      refine z_aload rfl rfl ?_
      refine z_getR (r := 84) rfl rfl (hRr _ rm_50_59 (by decide)) ?_
      refine z_iload rfl rfl ?_
      refine z_iald (v := J 38 3) rfl rfl (by decide) (by decide) (s7) ?_
      refine z_pushI (z := 1) rfl rfl ?_
      refine z_isub (e := (J 38 3) - 1) rfl rfl ?_
      refine z_callSi (As := [_, _, _]) (le := [some _, some _, some _]) rfl rfl (Nat.le_of_ble_eq_true rfl) (Nat.le_of_ble_eq_true rfl) rfl ?_
      refine z_iload rfl rfl ?_
      refine z_iload rfl rfl ?_
      refine z_icmp_ltF rfl (by omega) (by decide) (by omega) ?_
      refine z_iload rfl rfl ?_
      refine z_iload rfl rfl ?_
      refine z_icmp_gtT rfl (by omega) (by omega) (by omega) ?_
      refine z_pushI (z := 0) rfl rfl ?_
      refine z_bret rfl rfl (by decide) ?_
      show zW _ _ _ _ _ _ _ _ _ _
      refine z_if_eqT rfl (by decide) (by decide) ?_
      refine z_pushI (z := (-13)) rfl rfl ?_
      refine z_iret rfl rfl ?_
      show zW _ _ _ _ _ _ _ _ _ _
      refine z_istore rfl rfl ?_
      refine z_iload rfl rfl ?_
      refine z_if_geF rfl (by decide) (by decide) ?_
      refine z_iload rfl rfl ?_
      refine z_iret rfl rfl ?_
      refine ⟨?_, ?_⟩
      · first | rfl | exact congrArg (fun v => some (zi v)) (by omega) | (exfalso; omega)
      · exact hr
    · refine z_pushI (z := 0) rfl rfl ?_
      refine z_goto rfl ?_
      refine z_iret rfl rfl ?_
      show zW _ _ _ _ _ _ _ _ _ _
      refine z_istore rfl rfl ?_
      refine z_iload rfl rfl ?_
      refine z_if_geT rfl (by decide) (by decide) ?_
      refine z_aload rfl rfl ?_
      refine z_getR (r := 37) rfl rfl (hR _ rm_0_11) ?_
      refine z_iload rfl rfl ?_
      refine z_aald (r := 38) rfl rfl (by decide) (by decide) (hR _ rm_37_0) ?_
      refine z_iload rfl rfl ?_
      refine z_lload rfl rfl ?_
      refine z_callVi (As := [_, _]) (le := [some _, some _, some _, none]) rfl rfl rfl (Nat.le_of_ble_eq_true rfl) (Nat.le_of_ble_eq_true rfl) rfl ?_
      refine z_iload rfl rfl ?_
      refine z_if_ltF rfl (by omega) (by omega) ?_
      refine z_iload rfl rfl ?_
      refine z_aload rfl rfl ?_
      refine z_getI (v := J 38 3) rfl rfl (rfl) ?_
      refine z_icmp_geF rfl (by omega) (by omega) (by omega) ?_
      refine z_aload rfl rfl ?_
      refine z_getR (r := 39) rfl rfl (hR _ rm_38_4) ?_
      refine z_iload rfl rfl ?_
      refine z_aload rfl rfl ?_
      refine z_lload rfl rfl ?_
      refine z_callVi (As := [_]) (le := [some _, some _, none]) rfl rfl rfl (Nat.le_of_ble_eq_true rfl) (Nat.le_of_ble_eq_true rfl) rfl ?_
      refine z_aload rfl rfl ?_
      refine z_getI (v := 3) rfl rfl (hso) ?_
      refine z_swI (tg := 66) rfl (by decide) (T := [((0 : Int), 40), ((1 : Int), 45), ((2 : Int), 50), ((3 : Int), 66), ((4 : Int), 54)]) rfl (by decide) ?_
      refine z_lload rfl rfl ?_
      refine z_lret rfl rfl ?_
      show zW _ _ _ _ _ _ _ _ _ _
      refine z_last (e := v) rfl rfl (by decide) (by omega) rfl ?_
      refine z_vret rfl rfl ?_
      show zW _ _ _ _ _ _ _ _ _ _
      refine z_pushI (z := 1) rfl rfl ?_
      refine z_iret rfl rfl ?_
      refine ⟨_, rfl, ?_⟩
      show zW _ _ _ _ [some (.ref 50), some (zi 0), some (zi i), some (zl v), none, none, none] _ _ _ _ _
      refine z_aload rfl rfl ?_
      refine z_iload rfl rfl ?_
      refine z_iload rfl rfl ?_
      refine z_callVi (As := [_, _]) (le := [some _, some _, some _]) rfl rfl rfl (Nat.le_of_ble_eq_true rfl) (Nat.le_of_ble_eq_true rfl) rfl ?_
      refine z_iload rfl rfl ?_
      refine z_callSi (As := [_]) (le := [some _]) rfl rfl (Nat.le_of_ble_eq_true rfl) (Nat.le_of_ble_eq_true rfl) rfl ?_
      refine z_iload rfl rfl ?_
      refine z_pushI (z := 0) rfl rfl ?_
      refine z_pushI (z := 5) rfl rfl ?_
      refine z_callSi (As := [_, _, _]) (le := [some _, some _, some _]) rfl rfl (Nat.le_of_ble_eq_true rfl) (Nat.le_of_ble_eq_true rfl) rfl ?_
      refine z_iload rfl rfl ?_
      refine z_iload rfl rfl ?_
      refine z_icmp_ltF rfl (by decide) (by decide) (by decide) ?_
      refine z_iload rfl rfl ?_
      refine z_iload rfl rfl ?_
      refine z_icmp_gtF rfl (by decide) (by decide) (by decide) ?_
      refine z_pushI (z := 1) rfl rfl ?_
      refine z_goto rfl ?_
      refine z_bret rfl rfl (by decide) ?_
      show zW _ _ _ _ _ _ _ _ _ _
      refine z_bret rfl rfl (by decide) ?_
      show zW _ _ _ _ _ _ _ _ _ _
      refine z_if_neT rfl (by decide) (by decide) ?_
      refine z_aload rfl rfl ?_
      refine z_getR (r := 83) rfl rfl (hRr _ rm_50_58 (by decide)) ?_
      refine z_iload rfl rfl ?_
      refine z_iald (v := (-5)) rfl rfl (by decide) (by decide) ((e83.trans (by rw [hso]; rfl))) ?_
      refine z_pushI (z := (-1)) rfl rfl ?_
      refine z_icmp_neT rfl (by decide) (by decide) (by decide) ?_
      refine z_aload rfl rfl ?_
      refine z_getR (r := 83) rfl rfl (hRr _ rm_50_58 (by decide)) ?_
      refine z_iload rfl rfl ?_
      refine z_iald (v := (-5)) rfl rfl (by decide) (by decide) ((e83.trans (by rw [hso]; rfl))) ?_
      refine z_if_ltT rfl (by decide) (by decide) ?_
      refine z_iload rfl rfl ?_
      refine z_pushI (z := 0) rfl rfl ?_
      refine z_aload rfl rfl ?_
      refine z_getR (r := 84) rfl rfl (hRr _ rm_50_59 (by decide)) ?_
      refine z_iload rfl rfl ?_
      refine z_iald (v := J 38 3) rfl rfl (by decide) (by decide) (s7) ?_
      refine z_pushI (z := 1) rfl rfl ?_
      refine z_isub (e := (J 38 3) - 1) rfl rfl ?_
      refine z_callSi (As := [_, _, _]) (le := [some _, some _, some _]) rfl rfl (Nat.le_of_ble_eq_true rfl) (Nat.le_of_ble_eq_true rfl) rfl ?_
      refine z_iload rfl rfl ?_
      refine z_iload rfl rfl ?_
      refine z_icmp_ltF rfl (by omega) (by decide) (by omega) ?_
      refine z_iload rfl rfl ?_
      refine z_iload rfl rfl ?_
      refine z_icmp_gtF rfl (by omega) (by omega) (by omega) ?_
      refine z_pushI (z := 1) rfl rfl ?_
      refine z_goto rfl ?_
      refine z_bret rfl rfl (by decide) ?_
      show zW _ _ _ _ _ _ _ _ _ _
      refine z_if_eqF rfl (by decide) (by decide) ?_
      refine z_pushI (z := 0) rfl rfl ?_
      refine z_goto rfl ?_
      refine z_iret rfl rfl ?_
      show zW _ _ _ _ _ _ _ _ _ _
      refine z_istore rfl rfl ?_
      refine z_iload rfl rfl ?_
      refine z_if_geT rfl (by decide) (by decide) ?_
      refine z_pushI (z := (-2)) rfl rfl ?_
      refine z_aload rfl rfl ?_
      refine z_getR (r := 83) rfl rfl (hRr _ rm_50_58 (by decide)) ?_
      refine z_iload rfl rfl ?_
      refine z_iald (v := (-5)) rfl rfl (by decide) (by decide) ((e83.trans (by rw [hso]; rfl))) ?_
      refine z_isub (e := 3) rfl rfl ?_
      refine z_istore rfl rfl ?_
      refine z_aload rfl rfl ?_
      refine z_getR (r := 85) rfl rfl (hRr _ rm_50_60 (by decide)) ?_
      refine z_pushI (z := 60) rfl rfl ?_
      refine z_iload rfl rfl ?_
      refine z_imul (e := 0) rfl rfl ?_
      refine z_iload rfl rfl ?_
      refine z_iadd (e := 0 + i) rfl rfl ?_
      refine z_iload rfl rfl ?_
      refine z_if_neT rfl (by decide) (by decide) ?_
      refine z_iload rfl rfl ?_
      refine z_pushI (z := 1) rfl rfl ?_
      refine z_icmp_neT rfl (by decide) (by decide) (by decide) ?_
      refine z_iload rfl rfl ?_
      refine z_pushI (z := 2) rfl rfl ?_
      refine z_icmp_neT rfl (by decide) (by decide) (by decide) ?_
      refine z_iload rfl rfl ?_
      refine z_pushI (z := 3) rfl rfl ?_
      refine z_icmp_neF rfl (by decide) (by decide) (by decide) ?_
      refine z_lload rfl rfl ?_
      refine z_goto rfl ?_
      refine z_last (e := v) rfl rfl (by decide) (by omega) rfl ?_
      refine z_pushI (z := 1) rfl rfl ?_
      refine z_iret rfl rfl ?_
      refine ⟨?_, ?_⟩
      · first | rfl | exact congrArg (fun v => some (zi v)) (by omega) | (exfalso; omega)
      · have hk := (zK_r (k := (kL [] [])) (A := J))
        have hkm := (zK_x (a := 85) (x := 0 + i) (v := v) (zK_x (a := 39) (x := i) (v := v) (zK_r (k := (kL [39, 85] [])) (A := M)) rfl) rfl)
        exact ⟨hR, hG, RelY_k hk (by repeat' constructor) (fun p => by repeat' constructor) hY, RelD_k hk (by repeat' constructor) (fun p => by repeat' constructor) hD, RelP_k hk (by repeat' constructor) (fun p => by repeat' constructor) hP, RelC_k hk (by repeat' constructor) (fun p => by repeat' constructor) hC, RelA_k hk (by repeat' constructor) (fun p => by repeat' constructor) hAc, (RelS_one (J := J) (M := M) (c := 0) (fun t t1 t2 te => by have q : t = 0 ∨ t = 1 ∨ t = 2 ∨ t = 3 ∨ t = 4 ∨ t = 5 := (by omega); rcases q with rfl | rfl | rfl | rfl | rfl | rfl <;> first | exact absurd rfl te | exact ⟨fun j => rfl, rfl, rfl⟩) (fun t t1 t2 te => by have q : t = 0 ∨ t = 1 ∨ t = 2 ∨ t = 3 ∨ t = 4 ∨ t = 5 := (by omega); rcases q with rfl | rfl | rfl | rfl | rfl | rfl <;> first | exact absurd rfl te | exact ⟨fun j => rfl, fun j j1 j2 => (zU_x (by omega)).trans (zU_n (by decide))⟩) rfl (show RelS1 _ _ _ from ⟨(hS 0 (by decide) (by decide)).1, (hS 0 (by decide) (by decide)).2.1, s3, s4, (hS 0 (by decide) (by decide)).2.2.2.2.1, fun _ => ⟨s7.symm, fun k k1 k2 => by show (if k = i then v else M 39 k) = (if 0 + k = 0 + i then v else M 85 (0 + k)); by_cases e : k = i; rw [if_pos e, if_pos (by omega)]; rw [if_neg e, if_neg (by omega)]; exact s8 k k1 k2, (fun hq => absurd (Eq.trans (Eq.symm hq) hso) (by decide))⟩⟩) hS), RelT_k hk (by repeat' constructor) (fun p => by repeat' constructor) hTp, RelX_k hk (by repeat' constructor) (fun p => by repeat' constructor) hX, RelW_k hk ⟨rfl, rfl⟩ trivial hW⟩
theorem st_put_024 {X : Nat × (Nat → Int32)} {d : Nat} {J M : zA} {R : zR} {i v : Int} (hr : Rel X J M R) (hi : -2147483648 ≤ i ∧ i < 2147483648) (hv : -9223372036854775808 ≤ v ∧ v < 9223372036854775808) (hh : J 38 0 = 2) (hso : J 38 2 = 4) : zW X (d + 20) 138 0 (gEn 138 [(.ref 0), (zi 0), (zi i), (zl v)]) [] J M R (stP X (d + 20) 252 [(zi 0), (zi i), (zl v)]) := by
  have hr0 := hr
  obtain ⟨hR, hG, hY, hD, hP, hC, hAc, hS, hTp, hX, hW⟩ := hr0
  have hRr : zRoR R := zRoR_of hR
  have e83 : J 83 0 = -2 - J 38 2 := (hS 0 (by decide) (by decide)).1.symm.trans (cH_2 hh)
  have s3 : 0 ≤ J 38 2 ∧ J 38 2 ≤ 4 := (hS 0 (by decide) (by decide)).2.2.1
  have s4 : 0 ≤ J 38 3 ∧ J 38 3 ≤ 60 := (hS 0 (by decide) (by decide)).2.2.2.1
  have s6 := (hS 0 (by decide) (by decide)).2.2.2.2.2 hh
  have s7 : J 84 0 = J 38 3 := s6.1.symm
  have s8 : ∀ i, 0 ≤ i → i < J 38 3 → M 39 i = M 85 (0 + i) := s6.2.1
  show zW _ _ _ _ [some (.ref 0), some (zi 0), some (zi i), some (zl v), none, none] _ _ _ _ _
  refine z_iload rfl rfl ?_
  refine z_callSi (As := [_]) (le := [some _]) rfl rfl (Nat.le_of_ble_eq_true rfl) (Nat.le_of_ble_eq_true rfl) rfl ?_
  refine z_iload rfl rfl ?_
  refine z_if_ltF rfl (by decide) (by decide) ?_
  refine z_iload rfl rfl ?_
  refine z_pushI (z := 6) rfl rfl ?_
  refine z_icmp_geF rfl (by decide) (by decide) (by decide) ?_
  refine z_pushI (z := 1) rfl rfl ?_
  refine z_goto rfl ?_
  refine z_bret rfl rfl (by decide) ?_
  show zW _ _ _ _ _ _ _ _ _ _
  refine z_if_neT rfl (by decide) (by decide) ?_
  refine z_aload rfl rfl ?_
  refine z_getR (r := 37) rfl rfl (hR _ rm_0_11) ?_
  refine z_iload rfl rfl ?_
  refine z_aald (r := 38) rfl rfl (by decide) (by decide) (hR _ rm_37_0) ?_
  refine z_iload rfl rfl ?_
  refine z_callVi (As := [_]) (le := [some _, some _]) rfl rfl rfl (Nat.le_of_ble_eq_true rfl) (Nat.le_of_ble_eq_true rfl) rfl ?_
  refine z_aload rfl rfl ?_
  refine z_getI (v := 2) rfl rfl (hh) ?_
  refine z_if_neT rfl (by decide) (by decide) ?_
  refine z_aload rfl rfl ?_
  refine z_getI (v := 2) rfl rfl (hh) ?_
  refine z_pushI (z := 2) rfl rfl ?_
  refine z_icmp_eqT rfl (by decide) (by decide) (by decide) ?_
  refine z_iload rfl rfl ?_
  refine z_if_lt rfl (by omega) (fun h1 => ?_) (fun h1 => ?_)
  · refine z_pushI (z := (-13)) rfl rfl ?_
    refine z_iret rfl rfl ?_
    show zW _ _ _ _ _ _ _ _ _ _
    refine z_istore rfl rfl ?_
    refine z_iload rfl rfl ?_
    refine z_if_geF rfl (by decide) (by decide) ?_
    refine z_iload rfl rfl ?_
    refine z_iret rfl rfl ?_
    refine ⟨_, rfl, ?_⟩
    show zW _ _ _ _ [some (.ref 50), some (zi 0), some (zi i), some (zl v), none, none, none] _ _ _ _ _
    refine z_aload rfl rfl ?_
    refine z_iload rfl rfl ?_
    refine z_iload rfl rfl ?_
    refine z_callVi (As := [_, _]) (le := [some _, some _, some _]) rfl rfl rfl (Nat.le_of_ble_eq_true rfl) (Nat.le_of_ble_eq_true rfl) rfl ?_
    refine z_iload rfl rfl ?_
    refine z_callSi (As := [_]) (le := [some _]) rfl rfl (Nat.le_of_ble_eq_true rfl) (Nat.le_of_ble_eq_true rfl) rfl ?_
    refine z_iload rfl rfl ?_
    refine z_pushI (z := 0) rfl rfl ?_
    refine z_pushI (z := 5) rfl rfl ?_
    refine z_callSi (As := [_, _, _]) (le := [some _, some _, some _]) rfl rfl (Nat.le_of_ble_eq_true rfl) (Nat.le_of_ble_eq_true rfl) rfl ?_
    refine z_iload rfl rfl ?_
    refine z_iload rfl rfl ?_
    refine z_icmp_ltF rfl (by decide) (by decide) (by decide) ?_
    refine z_iload rfl rfl ?_
    refine z_iload rfl rfl ?_
    refine z_icmp_gtF rfl (by decide) (by decide) (by decide) ?_
    refine z_pushI (z := 1) rfl rfl ?_
    refine z_goto rfl ?_
    refine z_bret rfl rfl (by decide) ?_
    show zW _ _ _ _ _ _ _ _ _ _
    refine z_bret rfl rfl (by decide) ?_
    show zW _ _ _ _ _ _ _ _ _ _
    refine z_if_neT rfl (by decide) (by decide) ?_
    refine z_aload rfl rfl ?_
    refine z_getR (r := 83) rfl rfl (hRr _ rm_50_58 (by decide)) ?_
    refine z_iload rfl rfl ?_
    refine z_iald (v := (-6)) rfl rfl (by decide) (by decide) ((e83.trans (by rw [hso]; rfl))) ?_
    refine z_pushI (z := (-1)) rfl rfl ?_
    refine z_icmp_neT rfl (by decide) (by decide) (by decide) ?_
    refine z_aload rfl rfl ?_
    refine z_getR (r := 83) rfl rfl (hRr _ rm_50_58 (by decide)) ?_
    refine z_iload rfl rfl ?_
    refine z_iald (v := (-6)) rfl rfl (by decide) (by decide) ((e83.trans (by rw [hso]; rfl))) ?_
    refine z_if_ltT rfl (by decide) (by decide) ?_
    refine z_iload rfl rfl ?_
    refine z_pushI (z := 0) rfl rfl ?_
    refine z_aload rfl rfl ?_
    refine z_getR (r := 84) rfl rfl (hRr _ rm_50_59 (by decide)) ?_
    refine z_iload rfl rfl ?_
    refine z_iald (v := J 38 3) rfl rfl (by decide) (by decide) (s7) ?_
    refine z_pushI (z := 1) rfl rfl ?_
    refine z_isub (e := (J 38 3) - 1) rfl rfl ?_
    refine z_callSi (As := [_, _, _]) (le := [some _, some _, some _]) rfl rfl (Nat.le_of_ble_eq_true rfl) (Nat.le_of_ble_eq_true rfl) rfl ?_
    refine z_iload rfl rfl ?_
    refine z_iload rfl rfl ?_
    refine z_icmp_ltT rfl (by omega) (by decide) (by omega) ?_
    refine z_pushI (z := 0) rfl rfl ?_
    refine z_bret rfl rfl (by decide) ?_
    show zW _ _ _ _ _ _ _ _ _ _
    refine z_if_eqT rfl (by decide) (by decide) ?_
    refine z_pushI (z := (-13)) rfl rfl ?_
    refine z_iret rfl rfl ?_
    show zW _ _ _ _ _ _ _ _ _ _
    refine z_istore rfl rfl ?_
    refine z_iload rfl rfl ?_
    refine z_if_geF rfl (by decide) (by decide) ?_
    refine z_iload rfl rfl ?_
    refine z_iret rfl rfl ?_
    refine ⟨?_, ?_⟩
    · first | rfl | exact congrArg (fun v => some (zi v)) (by omega) | (exfalso; omega)
    · exact hr
  · refine z_iload rfl rfl ?_
    refine z_aload rfl rfl ?_
    refine z_getI (v := J 38 3) rfl rfl (rfl) ?_
    refine z_icmp_ge rfl (by omega) (by omega) (fun h2 => ?_) (fun h2 => ?_)
    · refine z_pushI (z := (-13)) rfl rfl ?_
      refine z_iret rfl rfl ?_
      show zW _ _ _ _ _ _ _ _ _ _
      refine z_istore rfl rfl ?_
      refine z_iload rfl rfl ?_
      refine z_if_geF rfl (by decide) (by decide) ?_
      refine z_iload rfl rfl ?_
      refine z_iret rfl rfl ?_
      refine ⟨_, rfl, ?_⟩
      show zW _ _ _ _ [some (.ref 50), some (zi 0), some (zi i), some (zl v), none, none, none] _ _ _ _ _
      refine z_aload rfl rfl ?_
      refine z_iload rfl rfl ?_
      refine z_iload rfl rfl ?_
      refine z_callVi (As := [_, _]) (le := [some _, some _, some _]) rfl rfl rfl (Nat.le_of_ble_eq_true rfl) (Nat.le_of_ble_eq_true rfl) rfl ?_
      refine z_iload rfl rfl ?_
      refine z_callSi (As := [_]) (le := [some _]) rfl rfl (Nat.le_of_ble_eq_true rfl) (Nat.le_of_ble_eq_true rfl) rfl ?_
      refine z_iload rfl rfl ?_
      refine z_pushI (z := 0) rfl rfl ?_
      refine z_pushI (z := 5) rfl rfl ?_
      refine z_callSi (As := [_, _, _]) (le := [some _, some _, some _]) rfl rfl (Nat.le_of_ble_eq_true rfl) (Nat.le_of_ble_eq_true rfl) rfl ?_
      refine z_iload rfl rfl ?_
      refine z_iload rfl rfl ?_
      refine z_icmp_ltF rfl (by decide) (by decide) (by decide) ?_
      refine z_iload rfl rfl ?_
      refine z_iload rfl rfl ?_
      refine z_icmp_gtF rfl (by decide) (by decide) (by decide) ?_
      refine z_pushI (z := 1) rfl rfl ?_
      refine z_goto rfl ?_
      refine z_bret rfl rfl (by decide) ?_
      show zW _ _ _ _ _ _ _ _ _ _
      refine z_bret rfl rfl (by decide) ?_
      show zW _ _ _ _ _ _ _ _ _ _
      refine z_if_neT rfl (by decide) (by decide) ?_
      refine z_aload rfl rfl ?_
      refine z_getR (r := 83) rfl rfl (hRr _ rm_50_58 (by decide)) ?_
      refine z_iload rfl rfl ?_
      refine z_iald (v := (-6)) rfl rfl (by decide) (by decide) ((e83.trans (by rw [hso]; rfl))) ?_
      refine z_pushI (z := (-1)) rfl rfl ?_
      refine z_icmp_neT rfl (by decide) (by decide) (by decide) ?_
      refine z_aload rfl rfl ?_
      refine z_getR (r := 83) rfl rfl (hRr _ rm_50_58 (by decide)) ?_
      refine z_iload rfl rfl ?_
      refine z_iald (v := (-6)) rfl rfl (by decide) (by decide) ((e83.trans (by rw [hso]; rfl))) ?_
      refine z_if_ltT rfl (by decide) (by decide) ?_
      refine z_iload rfl rfl ?_
      refine z_pushI (z := 0) rfl rfl ?_
      refine z_aload rfl rfl ?_
      refine z_getR (r := 84) rfl rfl (hRr _ rm_50_59 (by decide)) ?_
      refine z_iload rfl rfl ?_
      refine z_iald (v := J 38 3) rfl rfl (by decide) (by decide) (s7) ?_
      refine z_pushI (z := 1) rfl rfl ?_
      refine z_isub (e := (J 38 3) - 1) rfl rfl ?_
      refine z_callSi (As := [_, _, _]) (le := [some _, some _, some _]) rfl rfl (Nat.le_of_ble_eq_true rfl) (Nat.le_of_ble_eq_true rfl) rfl ?_
      refine z_iload rfl rfl ?_
      refine z_iload rfl rfl ?_
      refine z_icmp_ltF rfl (by omega) (by decide) (by omega) ?_
      refine z_iload rfl rfl ?_
      refine z_iload rfl rfl ?_
      refine z_icmp_gtT rfl (by omega) (by omega) (by omega) ?_
      refine z_pushI (z := 0) rfl rfl ?_
      refine z_bret rfl rfl (by decide) ?_
      show zW _ _ _ _ _ _ _ _ _ _
      refine z_if_eqT rfl (by decide) (by decide) ?_
      refine z_pushI (z := (-13)) rfl rfl ?_
      refine z_iret rfl rfl ?_
      show zW _ _ _ _ _ _ _ _ _ _
      refine z_istore rfl rfl ?_
      refine z_iload rfl rfl ?_
      refine z_if_geF rfl (by decide) (by decide) ?_
      refine z_iload rfl rfl ?_
      refine z_iret rfl rfl ?_
      refine ⟨?_, ?_⟩
      · first | rfl | exact congrArg (fun v => some (zi v)) (by omega) | (exfalso; omega)
      · exact hr
    · refine z_pushI (z := 0) rfl rfl ?_
      refine z_goto rfl ?_
      refine z_iret rfl rfl ?_
      show zW _ _ _ _ _ _ _ _ _ _
      refine z_istore rfl rfl ?_
      refine z_iload rfl rfl ?_
      refine z_if_geT rfl (by decide) (by decide) ?_
      refine z_aload rfl rfl ?_
      refine z_getR (r := 37) rfl rfl (hR _ rm_0_11) ?_
      refine z_iload rfl rfl ?_
      refine z_aald (r := 38) rfl rfl (by decide) (by decide) (hR _ rm_37_0) ?_
      refine z_iload rfl rfl ?_
      refine z_lload rfl rfl ?_
      refine z_callVi (As := [_, _]) (le := [some _, some _, some _, none]) rfl rfl rfl (Nat.le_of_ble_eq_true rfl) (Nat.le_of_ble_eq_true rfl) rfl ?_
      refine z_iload rfl rfl ?_
      refine z_if_ltF rfl (by omega) (by omega) ?_
      refine z_iload rfl rfl ?_
      refine z_aload rfl rfl ?_
      refine z_getI (v := J 38 3) rfl rfl (rfl) ?_
      refine z_icmp_geF rfl (by omega) (by omega) (by omega) ?_
      refine z_aload rfl rfl ?_
      refine z_getR (r := 39) rfl rfl (hR _ rm_38_4) ?_
      refine z_iload rfl rfl ?_
      refine z_aload rfl rfl ?_
      refine z_lload rfl rfl ?_
      refine z_callVi (As := [_]) (le := [some _, some _, none]) rfl rfl rfl (Nat.le_of_ble_eq_true rfl) (Nat.le_of_ble_eq_true rfl) rfl ?_
      refine z_aload rfl rfl ?_
      refine z_getI (v := 4) rfl rfl (hso) ?_
      refine z_swI (tg := 54) rfl (by decide) (T := [((0 : Int), 40), ((1 : Int), 45), ((2 : Int), 50), ((3 : Int), 66), ((4 : Int), 54)]) rfl (by decide) ?_
      refine z_lload rfl rfl ?_
      refine z_pushL (z := 0) rfl rfl ?_
      refine z_lcmp_eq rfl rfl (by omega) (by omega) (fun h3 => ?_) (fun h3 => ?_)
      · refine z_pushL (z := 0) rfl rfl ?_
        refine z_lret rfl rfl ?_
        show zW _ _ _ _ _ _ _ _ _ _
        refine z_last (e := 0) rfl rfl (by decide) (by omega) rfl ?_
        refine z_vret rfl rfl ?_
        show zW _ _ _ _ _ _ _ _ _ _
        refine z_pushI (z := 1) rfl rfl ?_
        refine z_iret rfl rfl ?_
        refine ⟨_, rfl, ?_⟩
        show zW _ _ _ _ [some (.ref 50), some (zi 0), some (zi i), some (zl v), none, none, none] _ _ _ _ _
        refine z_aload rfl rfl ?_
        refine z_iload rfl rfl ?_
        refine z_iload rfl rfl ?_
        refine z_callVi (As := [_, _]) (le := [some _, some _, some _]) rfl rfl rfl (Nat.le_of_ble_eq_true rfl) (Nat.le_of_ble_eq_true rfl) rfl ?_
        refine z_iload rfl rfl ?_
        refine z_callSi (As := [_]) (le := [some _]) rfl rfl (Nat.le_of_ble_eq_true rfl) (Nat.le_of_ble_eq_true rfl) rfl ?_
        refine z_iload rfl rfl ?_
        refine z_pushI (z := 0) rfl rfl ?_
        refine z_pushI (z := 5) rfl rfl ?_
        refine z_callSi (As := [_, _, _]) (le := [some _, some _, some _]) rfl rfl (Nat.le_of_ble_eq_true rfl) (Nat.le_of_ble_eq_true rfl) rfl ?_
        refine z_iload rfl rfl ?_
        refine z_iload rfl rfl ?_
        refine z_icmp_ltF rfl (by decide) (by decide) (by decide) ?_
        refine z_iload rfl rfl ?_
        refine z_iload rfl rfl ?_
        refine z_icmp_gtF rfl (by decide) (by decide) (by decide) ?_
        refine z_pushI (z := 1) rfl rfl ?_
        refine z_goto rfl ?_
        refine z_bret rfl rfl (by decide) ?_
        show zW _ _ _ _ _ _ _ _ _ _
        refine z_bret rfl rfl (by decide) ?_
        show zW _ _ _ _ _ _ _ _ _ _
        refine z_if_neT rfl (by decide) (by decide) ?_
        refine z_aload rfl rfl ?_
        refine z_getR (r := 83) rfl rfl (hRr _ rm_50_58 (by decide)) ?_
        refine z_iload rfl rfl ?_
        refine z_iald (v := (-6)) rfl rfl (by decide) (by decide) ((e83.trans (by rw [hso]; rfl))) ?_
        refine z_pushI (z := (-1)) rfl rfl ?_
        refine z_icmp_neT rfl (by decide) (by decide) (by decide) ?_
        refine z_aload rfl rfl ?_
        refine z_getR (r := 83) rfl rfl (hRr _ rm_50_58 (by decide)) ?_
        refine z_iload rfl rfl ?_
        refine z_iald (v := (-6)) rfl rfl (by decide) (by decide) ((e83.trans (by rw [hso]; rfl))) ?_
        refine z_if_ltT rfl (by decide) (by decide) ?_
        refine z_iload rfl rfl ?_
        refine z_pushI (z := 0) rfl rfl ?_
        refine z_aload rfl rfl ?_
        refine z_getR (r := 84) rfl rfl (hRr _ rm_50_59 (by decide)) ?_
        refine z_iload rfl rfl ?_
        refine z_iald (v := J 38 3) rfl rfl (by decide) (by decide) (s7) ?_
        refine z_pushI (z := 1) rfl rfl ?_
        refine z_isub (e := (J 38 3) - 1) rfl rfl ?_
        refine z_callSi (As := [_, _, _]) (le := [some _, some _, some _]) rfl rfl (Nat.le_of_ble_eq_true rfl) (Nat.le_of_ble_eq_true rfl) rfl ?_
        refine z_iload rfl rfl ?_
        refine z_iload rfl rfl ?_
        refine z_icmp_ltF rfl (by omega) (by decide) (by omega) ?_
        refine z_iload rfl rfl ?_
        refine z_iload rfl rfl ?_
        refine z_icmp_gtF rfl (by omega) (by omega) (by omega) ?_
        refine z_pushI (z := 1) rfl rfl ?_
        refine z_goto rfl ?_
        refine z_bret rfl rfl (by decide) ?_
        show zW _ _ _ _ _ _ _ _ _ _
        refine z_if_eqF rfl (by decide) (by decide) ?_
        refine z_pushI (z := 0) rfl rfl ?_
        refine z_goto rfl ?_
        refine z_iret rfl rfl ?_
        show zW _ _ _ _ _ _ _ _ _ _
        refine z_istore rfl rfl ?_
        refine z_iload rfl rfl ?_
        refine z_if_geT rfl (by decide) (by decide) ?_
        refine z_pushI (z := (-2)) rfl rfl ?_
        refine z_aload rfl rfl ?_
        refine z_getR (r := 83) rfl rfl (hRr _ rm_50_58 (by decide)) ?_
        refine z_iload rfl rfl ?_
        refine z_iald (v := (-6)) rfl rfl (by decide) (by decide) ((e83.trans (by rw [hso]; rfl))) ?_
        refine z_isub (e := 4) rfl rfl ?_
        refine z_istore rfl rfl ?_
        refine z_aload rfl rfl ?_
        refine z_getR (r := 85) rfl rfl (hRr _ rm_50_60 (by decide)) ?_
        refine z_pushI (z := 60) rfl rfl ?_
        refine z_iload rfl rfl ?_
        refine z_imul (e := 0) rfl rfl ?_
        refine z_iload rfl rfl ?_
        refine z_iadd (e := 0 + i) rfl rfl ?_
        refine z_iload rfl rfl ?_
        refine z_if_neT rfl (by decide) (by decide) ?_
        refine z_iload rfl rfl ?_
        refine z_pushI (z := 1) rfl rfl ?_
        refine z_icmp_neT rfl (by decide) (by decide) (by decide) ?_
        refine z_iload rfl rfl ?_
        refine z_pushI (z := 2) rfl rfl ?_
        refine z_icmp_neT rfl (by decide) (by decide) (by decide) ?_
        refine z_iload rfl rfl ?_
        refine z_pushI (z := 3) rfl rfl ?_
        refine z_icmp_neT rfl (by decide) (by decide) (by decide) ?_
        refine z_lload rfl rfl ?_
        refine z_pushL (z := 0) rfl rfl ?_
        refine z_lcmp_eq rfl rfl (by omega) (by omega) (fun h4 => ?_) (fun h4 => ?_)
        · refine z_pushL (z := 0) rfl rfl ?_
          refine z_last (e := 0) rfl rfl (by decide) (by omega) rfl ?_
          refine z_pushI (z := 1) rfl rfl ?_
          refine z_iret rfl rfl ?_
          refine ⟨?_, ?_⟩
          · first | rfl | exact congrArg (fun v => some (zi v)) (by omega) | (exfalso; omega)
          · have hk := (zK_r (k := (kL [] [])) (A := J))
            have hkm := (zK_x (a := 85) (x := 0 + i) (v := 0) (zK_x (a := 39) (x := i) (v := 0) (zK_r (k := (kL [39, 85] [])) (A := M)) rfl) rfl)
            exact ⟨hR, hG, RelY_k hk (by repeat' constructor) (fun p => by repeat' constructor) hY, RelD_k hk (by repeat' constructor) (fun p => by repeat' constructor) hD, RelP_k hk (by repeat' constructor) (fun p => by repeat' constructor) hP, RelC_k hk (by repeat' constructor) (fun p => by repeat' constructor) hC, RelA_k hk (by repeat' constructor) (fun p => by repeat' constructor) hAc, (RelS_one (J := J) (M := M) (c := 0) (fun t t1 t2 te => by have q : t = 0 ∨ t = 1 ∨ t = 2 ∨ t = 3 ∨ t = 4 ∨ t = 5 := (by omega); rcases q with rfl | rfl | rfl | rfl | rfl | rfl <;> first | exact absurd rfl te | exact ⟨fun j => rfl, rfl, rfl⟩) (fun t t1 t2 te => by have q : t = 0 ∨ t = 1 ∨ t = 2 ∨ t = 3 ∨ t = 4 ∨ t = 5 := (by omega); rcases q with rfl | rfl | rfl | rfl | rfl | rfl <;> first | exact absurd rfl te | exact ⟨fun j => rfl, fun j j1 j2 => (zU_x (by omega)).trans (zU_n (by decide))⟩) rfl (show RelS1 _ _ _ from ⟨(hS 0 (by decide) (by decide)).1, (hS 0 (by decide) (by decide)).2.1, s3, s4, (hS 0 (by decide) (by decide)).2.2.2.2.1, fun _ => ⟨s7.symm, fun k k1 k2 => by show (if k = i then 0 else M 39 k) = (if 0 + k = 0 + i then 0 else M 85 (0 + k)); by_cases e : k = i; rw [if_pos e, if_pos (by omega)]; rw [if_neg e, if_neg (by omega)]; exact s8 k k1 k2, (fun hq => absurd (Eq.trans (Eq.symm hq) hso) (by decide))⟩⟩) hS), RelT_k hk (by repeat' constructor) (fun p => by repeat' constructor) hTp, RelX_k hk (by repeat' constructor) (fun p => by repeat' constructor) hX, RelW_k hk ⟨rfl, rfl⟩ trivial hW⟩
        · refine z_pushL (z := 1) rfl rfl ?_
          refine z_goto rfl ?_
          refine z_last (e := 1) rfl rfl (by decide) (by omega) rfl ?_
          refine z_pushI (z := 1) rfl rfl ?_
          refine z_iret rfl rfl ?_
          refine ⟨?_, ?_⟩
          · first | rfl | exact congrArg (fun v => some (zi v)) (by omega) | (exfalso; omega)
          · exfalso
            omega
      · refine z_pushL (z := 1) rfl rfl ?_
        refine z_goto rfl ?_
        refine z_lret rfl rfl ?_
        show zW _ _ _ _ _ _ _ _ _ _
        refine z_last (e := 1) rfl rfl (by decide) (by omega) rfl ?_
        refine z_vret rfl rfl ?_
        show zW _ _ _ _ _ _ _ _ _ _
        refine z_pushI (z := 1) rfl rfl ?_
        refine z_iret rfl rfl ?_
        refine ⟨_, rfl, ?_⟩
        show zW _ _ _ _ [some (.ref 50), some (zi 0), some (zi i), some (zl v), none, none, none] _ _ _ _ _
        refine z_aload rfl rfl ?_
        refine z_iload rfl rfl ?_
        refine z_iload rfl rfl ?_
        refine z_callVi (As := [_, _]) (le := [some _, some _, some _]) rfl rfl rfl (Nat.le_of_ble_eq_true rfl) (Nat.le_of_ble_eq_true rfl) rfl ?_
        refine z_iload rfl rfl ?_
        refine z_callSi (As := [_]) (le := [some _]) rfl rfl (Nat.le_of_ble_eq_true rfl) (Nat.le_of_ble_eq_true rfl) rfl ?_
        refine z_iload rfl rfl ?_
        refine z_pushI (z := 0) rfl rfl ?_
        refine z_pushI (z := 5) rfl rfl ?_
        refine z_callSi (As := [_, _, _]) (le := [some _, some _, some _]) rfl rfl (Nat.le_of_ble_eq_true rfl) (Nat.le_of_ble_eq_true rfl) rfl ?_
        refine z_iload rfl rfl ?_
        refine z_iload rfl rfl ?_
        refine z_icmp_ltF rfl (by decide) (by decide) (by decide) ?_
        refine z_iload rfl rfl ?_
        refine z_iload rfl rfl ?_
        refine z_icmp_gtF rfl (by decide) (by decide) (by decide) ?_
        refine z_pushI (z := 1) rfl rfl ?_
        refine z_goto rfl ?_
        refine z_bret rfl rfl (by decide) ?_
        show zW _ _ _ _ _ _ _ _ _ _
        refine z_bret rfl rfl (by decide) ?_
        show zW _ _ _ _ _ _ _ _ _ _
        refine z_if_neT rfl (by decide) (by decide) ?_
        refine z_aload rfl rfl ?_
        refine z_getR (r := 83) rfl rfl (hRr _ rm_50_58 (by decide)) ?_
        refine z_iload rfl rfl ?_
        refine z_iald (v := (-6)) rfl rfl (by decide) (by decide) ((e83.trans (by rw [hso]; rfl))) ?_
        refine z_pushI (z := (-1)) rfl rfl ?_
        refine z_icmp_neT rfl (by decide) (by decide) (by decide) ?_
        refine z_aload rfl rfl ?_
        refine z_getR (r := 83) rfl rfl (hRr _ rm_50_58 (by decide)) ?_
        refine z_iload rfl rfl ?_
        refine z_iald (v := (-6)) rfl rfl (by decide) (by decide) ((e83.trans (by rw [hso]; rfl))) ?_
        refine z_if_ltT rfl (by decide) (by decide) ?_
        refine z_iload rfl rfl ?_
        refine z_pushI (z := 0) rfl rfl ?_
        refine z_aload rfl rfl ?_
        refine z_getR (r := 84) rfl rfl (hRr _ rm_50_59 (by decide)) ?_
        refine z_iload rfl rfl ?_
        refine z_iald (v := J 38 3) rfl rfl (by decide) (by decide) (s7) ?_
        refine z_pushI (z := 1) rfl rfl ?_
        refine z_isub (e := (J 38 3) - 1) rfl rfl ?_
        refine z_callSi (As := [_, _, _]) (le := [some _, some _, some _]) rfl rfl (Nat.le_of_ble_eq_true rfl) (Nat.le_of_ble_eq_true rfl) rfl ?_
        refine z_iload rfl rfl ?_
        refine z_iload rfl rfl ?_
        refine z_icmp_ltF rfl (by omega) (by decide) (by omega) ?_
        refine z_iload rfl rfl ?_
        refine z_iload rfl rfl ?_
        refine z_icmp_gtF rfl (by omega) (by omega) (by omega) ?_
        refine z_pushI (z := 1) rfl rfl ?_
        refine z_goto rfl ?_
        refine z_bret rfl rfl (by decide) ?_
        show zW _ _ _ _ _ _ _ _ _ _
        refine z_if_eqF rfl (by decide) (by decide) ?_
        refine z_pushI (z := 0) rfl rfl ?_
        refine z_goto rfl ?_
        refine z_iret rfl rfl ?_
        show zW _ _ _ _ _ _ _ _ _ _
        refine z_istore rfl rfl ?_
        refine z_iload rfl rfl ?_
        refine z_if_geT rfl (by decide) (by decide) ?_
        refine z_pushI (z := (-2)) rfl rfl ?_
        refine z_aload rfl rfl ?_
        refine z_getR (r := 83) rfl rfl (hRr _ rm_50_58 (by decide)) ?_
        refine z_iload rfl rfl ?_
        refine z_iald (v := (-6)) rfl rfl (by decide) (by decide) ((e83.trans (by rw [hso]; rfl))) ?_
        refine z_isub (e := 4) rfl rfl ?_
        refine z_istore rfl rfl ?_
        refine z_aload rfl rfl ?_
        refine z_getR (r := 85) rfl rfl (hRr _ rm_50_60 (by decide)) ?_
        refine z_pushI (z := 60) rfl rfl ?_
        refine z_iload rfl rfl ?_
        refine z_imul (e := 0) rfl rfl ?_
        refine z_iload rfl rfl ?_
        refine z_iadd (e := 0 + i) rfl rfl ?_
        refine z_iload rfl rfl ?_
        refine z_if_neT rfl (by decide) (by decide) ?_
        refine z_iload rfl rfl ?_
        refine z_pushI (z := 1) rfl rfl ?_
        refine z_icmp_neT rfl (by decide) (by decide) (by decide) ?_
        refine z_iload rfl rfl ?_
        refine z_pushI (z := 2) rfl rfl ?_
        refine z_icmp_neT rfl (by decide) (by decide) (by decide) ?_
        refine z_iload rfl rfl ?_
        refine z_pushI (z := 3) rfl rfl ?_
        refine z_icmp_neT rfl (by decide) (by decide) (by decide) ?_
        refine z_lload rfl rfl ?_
        refine z_pushL (z := 0) rfl rfl ?_
        refine z_lcmp_eq rfl rfl (by omega) (by omega) (fun h4 => ?_) (fun h4 => ?_)
        · refine z_pushL (z := 0) rfl rfl ?_
          refine z_last (e := 0) rfl rfl (by decide) (by omega) rfl ?_
          refine z_pushI (z := 1) rfl rfl ?_
          refine z_iret rfl rfl ?_
          refine ⟨?_, ?_⟩
          · first | rfl | exact congrArg (fun v => some (zi v)) (by omega) | (exfalso; omega)
          · exfalso
            omega
        · refine z_pushL (z := 1) rfl rfl ?_
          refine z_goto rfl ?_
          refine z_last (e := 1) rfl rfl (by decide) (by omega) rfl ?_
          refine z_pushI (z := 1) rfl rfl ?_
          refine z_iret rfl rfl ?_
          refine ⟨?_, ?_⟩
          · first | rfl | exact congrArg (fun v => some (zi v)) (by omega) | (exfalso; omega)
          · have hk := (zK_r (k := (kL [] [])) (A := J))
            have hkm := (zK_x (a := 85) (x := 0 + i) (v := 1) (zK_x (a := 39) (x := i) (v := 1) (zK_r (k := (kL [39, 85] [])) (A := M)) rfl) rfl)
            exact ⟨hR, hG, RelY_k hk (by repeat' constructor) (fun p => by repeat' constructor) hY, RelD_k hk (by repeat' constructor) (fun p => by repeat' constructor) hD, RelP_k hk (by repeat' constructor) (fun p => by repeat' constructor) hP, RelC_k hk (by repeat' constructor) (fun p => by repeat' constructor) hC, RelA_k hk (by repeat' constructor) (fun p => by repeat' constructor) hAc, (RelS_one (J := J) (M := M) (c := 0) (fun t t1 t2 te => by have q : t = 0 ∨ t = 1 ∨ t = 2 ∨ t = 3 ∨ t = 4 ∨ t = 5 := (by omega); rcases q with rfl | rfl | rfl | rfl | rfl | rfl <;> first | exact absurd rfl te | exact ⟨fun j => rfl, rfl, rfl⟩) (fun t t1 t2 te => by have q : t = 0 ∨ t = 1 ∨ t = 2 ∨ t = 3 ∨ t = 4 ∨ t = 5 := (by omega); rcases q with rfl | rfl | rfl | rfl | rfl | rfl <;> first | exact absurd rfl te | exact ⟨fun j => rfl, fun j j1 j2 => (zU_x (by omega)).trans (zU_n (by decide))⟩) rfl (show RelS1 _ _ _ from ⟨(hS 0 (by decide) (by decide)).1, (hS 0 (by decide) (by decide)).2.1, s3, s4, (hS 0 (by decide) (by decide)).2.2.2.2.1, fun _ => ⟨s7.symm, fun k k1 k2 => by show (if k = i then 1 else M 39 k) = (if 0 + k = 0 + i then 1 else M 85 (0 + k)); by_cases e : k = i; rw [if_pos e, if_pos (by omega)]; rw [if_neg e, if_neg (by omega)]; exact s8 k k1 k2, (fun hq => absurd (Eq.trans (Eq.symm hq) hso) (by decide))⟩⟩) hS), RelT_k hk (by repeat' constructor) (fun p => by repeat' constructor) hTp, RelX_k hk (by repeat' constructor) (fun p => by repeat' constructor) hX, RelW_k hk ⟨rfl, rfl⟩ trivial hW⟩
theorem st_element_10 {X : Nat × (Nat → Int32)} {d : Nat} {J M : zA} {R : zR} {i : Int} (hr : Rel X J M R) (hi : -2147483648 ≤ i ∧ i < 2147483648) (hh : J 40 0 = 0) : zW X (d + 20) 139 0 (gEn 139 [(.ref 0), (zi 1), (zi i)]) [] J M R (stL X (d + 20) 253 [(zi 1), (zi i)]) := by
  have hr0 := hr
  obtain ⟨hR, hG, hY, hD, hP, hC, hAc, hS, hTp, hX, hW⟩ := hr0
  have hRr : zRoR R := zRoR_of hR
  have hA0 := hAc
  obtain ⟨a1, a2, a3, a4, a5, a6⟩ := hA0
  have e83 : J 83 1 = -1 := (hS 1 (by decide) (by decide)).1.symm.trans (cH_0 hh)
  have s3 : 0 ≤ J 40 2 ∧ J 40 2 ≤ 4 := (hS 1 (by decide) (by decide)).2.2.1
  have s4 : 0 ≤ J 40 3 ∧ J 40 3 ≤ 60 := (hS 1 (by decide) (by decide)).2.2.2.1
  show zW _ _ _ _ [some (.ref 0), some (zi 1), some (zi i)] _ _ _ _ _
  refine z_iload rfl rfl ?_
  refine z_callSi (As := [_]) (le := [some _]) rfl rfl (Nat.le_of_ble_eq_true rfl) (Nat.le_of_ble_eq_true rfl) rfl ?_
  refine z_iload rfl rfl ?_
  refine z_if_ltF rfl (by decide) (by decide) ?_
  refine z_iload rfl rfl ?_
  refine z_pushI (z := 6) rfl rfl ?_
  refine z_icmp_geF rfl (by decide) (by decide) (by decide) ?_
  refine z_pushI (z := 1) rfl rfl ?_
  refine z_goto rfl ?_
  refine z_bret rfl rfl (by decide) ?_
  show zW _ _ _ _ _ _ _ _ _ _
  refine z_if_eqF rfl (by decide) (by decide) ?_
  refine z_aload rfl rfl ?_
  refine z_getR (r := 37) rfl rfl (hR _ rm_0_11) ?_
  refine z_iload rfl rfl ?_
  refine z_aald (r := 40) rfl rfl (by decide) (by decide) (hR _ rm_37_1) ?_
  refine z_iload rfl rfl ?_
  refine z_callVi (As := [_]) (le := [some _, some _]) rfl rfl rfl (Nat.le_of_ble_eq_true rfl) (Nat.le_of_ble_eq_true rfl) rfl ?_
  refine z_aload rfl rfl ?_
  refine z_getI (v := 0) rfl rfl (hh) ?_
  refine z_if_neF rfl (by decide) (by decide) ?_
  refine z_pushI (z := (-11)) rfl rfl ?_
  refine z_iret rfl rfl ?_
  show zW _ _ _ _ _ _ _ _ _ _
  refine z_if_geF rfl (by decide) (by decide) ?_
  refine z_pushL (z := (-9223372036854775808)) rfl rfl ?_
  refine z_lret rfl rfl ?_
  refine ⟨_, rfl, ?_⟩
  show zW _ _ _ _ [some (.ref 50), some (zi 1), some (zi i)] _ _ _ _ _
  refine z_aload rfl rfl ?_
  refine z_iload rfl rfl ?_
  refine z_iload rfl rfl ?_
  refine z_callVi (As := [_, _]) (le := [some _, some _, some _]) rfl rfl rfl (Nat.le_of_ble_eq_true rfl) (Nat.le_of_ble_eq_true rfl) rfl ?_
  refine z_iload rfl rfl ?_
  refine z_callSi (As := [_]) (le := [some _]) rfl rfl (Nat.le_of_ble_eq_true rfl) (Nat.le_of_ble_eq_true rfl) rfl ?_
  refine z_iload rfl rfl ?_
  refine z_pushI (z := 0) rfl rfl ?_
  refine z_pushI (z := 5) rfl rfl ?_
  refine z_callSi (As := [_, _, _]) (le := [some _, some _, some _]) rfl rfl (Nat.le_of_ble_eq_true rfl) (Nat.le_of_ble_eq_true rfl) rfl ?_
  refine z_iload rfl rfl ?_
  refine z_iload rfl rfl ?_
  refine z_icmp_ltF rfl (by decide) (by decide) (by decide) ?_
  refine z_iload rfl rfl ?_
  refine z_iload rfl rfl ?_
  refine z_icmp_gtF rfl (by decide) (by decide) (by decide) ?_
  refine z_pushI (z := 1) rfl rfl ?_
  refine z_goto rfl ?_
  refine z_bret rfl rfl (by decide) ?_
  show zW _ _ _ _ _ _ _ _ _ _
  refine z_bret rfl rfl (by decide) ?_
  show zW _ _ _ _ _ _ _ _ _ _
  refine z_if_neT rfl (by decide) (by decide) ?_
  refine z_aload rfl rfl ?_
  refine z_getR (r := 83) rfl rfl (hRr _ rm_50_58 (by decide)) ?_
  refine z_iload rfl rfl ?_
  refine z_iald (v := (-1)) rfl rfl (by decide) (by decide) (e83) ?_
  refine z_pushI (z := (-1)) rfl rfl ?_
  refine z_icmp_neF rfl (by decide) (by decide) (by decide) ?_
  refine z_pushI (z := (-11)) rfl rfl ?_
  refine z_iret rfl rfl ?_
  show zW _ _ _ _ _ _ _ _ _ _
  refine z_if_geF rfl (by decide) (by decide) ?_
  refine z_pushL (z := (-9223372036854775808)) rfl rfl ?_
  refine z_goto rfl ?_
  refine z_lret rfl rfl ?_
  refine ⟨?_, ?_⟩
  · first | rfl | exact congrArg (fun v => some (zl v)) (by omega) | (exfalso; omega)
  · exact hr
theorem st_put_10 {X : Nat × (Nat → Int32)} {d : Nat} {J M : zA} {R : zR} {i v : Int} (hr : Rel X J M R) (hi : -2147483648 ≤ i ∧ i < 2147483648) (hv : -9223372036854775808 ≤ v ∧ v < 9223372036854775808) (hh : J 40 0 = 0) : zW X (d + 20) 138 0 (gEn 138 [(.ref 0), (zi 1), (zi i), (zl v)]) [] J M R (stP X (d + 20) 252 [(zi 1), (zi i), (zl v)]) := by
  have hr0 := hr
  obtain ⟨hR, hG, hY, hD, hP, hC, hAc, hS, hTp, hX, hW⟩ := hr0
  have hRr : zRoR R := zRoR_of hR
  have hA0 := hAc
  obtain ⟨a1, a2, a3, a4, a5, a6⟩ := hA0
  have e83 : J 83 1 = -1 := (hS 1 (by decide) (by decide)).1.symm.trans (cH_0 hh)
  have s3 : 0 ≤ J 40 2 ∧ J 40 2 ≤ 4 := (hS 1 (by decide) (by decide)).2.2.1
  have s4 : 0 ≤ J 40 3 ∧ J 40 3 ≤ 60 := (hS 1 (by decide) (by decide)).2.2.2.1
  show zW _ _ _ _ [some (.ref 0), some (zi 1), some (zi i), some (zl v), none, none] _ _ _ _ _
  refine z_iload rfl rfl ?_
  refine z_callSi (As := [_]) (le := [some _]) rfl rfl (Nat.le_of_ble_eq_true rfl) (Nat.le_of_ble_eq_true rfl) rfl ?_
  refine z_iload rfl rfl ?_
  refine z_if_ltF rfl (by decide) (by decide) ?_
  refine z_iload rfl rfl ?_
  refine z_pushI (z := 6) rfl rfl ?_
  refine z_icmp_geF rfl (by decide) (by decide) (by decide) ?_
  refine z_pushI (z := 1) rfl rfl ?_
  refine z_goto rfl ?_
  refine z_bret rfl rfl (by decide) ?_
  show zW _ _ _ _ _ _ _ _ _ _
  refine z_if_neT rfl (by decide) (by decide) ?_
  refine z_aload rfl rfl ?_
  refine z_getR (r := 37) rfl rfl (hR _ rm_0_11) ?_
  refine z_iload rfl rfl ?_
  refine z_aald (r := 40) rfl rfl (by decide) (by decide) (hR _ rm_37_1) ?_
  refine z_iload rfl rfl ?_
  refine z_callVi (As := [_]) (le := [some _, some _]) rfl rfl rfl (Nat.le_of_ble_eq_true rfl) (Nat.le_of_ble_eq_true rfl) rfl ?_
  refine z_aload rfl rfl ?_
  refine z_getI (v := 0) rfl rfl (hh) ?_
  refine z_if_neF rfl (by decide) (by decide) ?_
  refine z_pushI (z := (-11)) rfl rfl ?_
  refine z_iret rfl rfl ?_
  show zW _ _ _ _ _ _ _ _ _ _
  refine z_istore rfl rfl ?_
  refine z_iload rfl rfl ?_
  refine z_if_geF rfl (by decide) (by decide) ?_
  refine z_iload rfl rfl ?_
  refine z_iret rfl rfl ?_
  refine ⟨_, rfl, ?_⟩
  show zW _ _ _ _ [some (.ref 50), some (zi 1), some (zi i), some (zl v), none, none, none] _ _ _ _ _
  refine z_aload rfl rfl ?_
  refine z_iload rfl rfl ?_
  refine z_iload rfl rfl ?_
  refine z_callVi (As := [_, _]) (le := [some _, some _, some _]) rfl rfl rfl (Nat.le_of_ble_eq_true rfl) (Nat.le_of_ble_eq_true rfl) rfl ?_
  refine z_iload rfl rfl ?_
  refine z_callSi (As := [_]) (le := [some _]) rfl rfl (Nat.le_of_ble_eq_true rfl) (Nat.le_of_ble_eq_true rfl) rfl ?_
  refine z_iload rfl rfl ?_
  refine z_pushI (z := 0) rfl rfl ?_
  refine z_pushI (z := 5) rfl rfl ?_
  refine z_callSi (As := [_, _, _]) (le := [some _, some _, some _]) rfl rfl (Nat.le_of_ble_eq_true rfl) (Nat.le_of_ble_eq_true rfl) rfl ?_
  refine z_iload rfl rfl ?_
  refine z_iload rfl rfl ?_
  refine z_icmp_ltF rfl (by decide) (by decide) (by decide) ?_
  refine z_iload rfl rfl ?_
  refine z_iload rfl rfl ?_
  refine z_icmp_gtF rfl (by decide) (by decide) (by decide) ?_
  refine z_pushI (z := 1) rfl rfl ?_
  refine z_goto rfl ?_
  refine z_bret rfl rfl (by decide) ?_
  show zW _ _ _ _ _ _ _ _ _ _
  refine z_bret rfl rfl (by decide) ?_
  show zW _ _ _ _ _ _ _ _ _ _
  refine z_if_neT rfl (by decide) (by decide) ?_
  refine z_aload rfl rfl ?_
  refine z_getR (r := 83) rfl rfl (hRr _ rm_50_58 (by decide)) ?_
  refine z_iload rfl rfl ?_
  refine z_iald (v := (-1)) rfl rfl (by decide) (by decide) (e83) ?_
  refine z_pushI (z := (-1)) rfl rfl ?_
  refine z_icmp_neF rfl (by decide) (by decide) (by decide) ?_
  refine z_pushI (z := (-11)) rfl rfl ?_
  refine z_iret rfl rfl ?_
  show zW _ _ _ _ _ _ _ _ _ _
  refine z_istore rfl rfl ?_
  refine z_iload rfl rfl ?_
  refine z_if_geF rfl (by decide) (by decide) ?_
  refine z_iload rfl rfl ?_
  refine z_iret rfl rfl ?_
  refine ⟨?_, ?_⟩
  · first | rfl | exact congrArg (fun v => some (zi v)) (by omega) | (exfalso; omega)
  · exact hr
theorem st_element_11 {X : Nat × (Nat → Int32)} {d : Nat} {J M : zA} {R : zR} {i : Int} (hr : Rel X J M R) (hi : -2147483648 ≤ i ∧ i < 2147483648) (hh : J 40 0 = 1) : zW X (d + 20) 139 0 (gEn 139 [(.ref 0), (zi 1), (zi i)]) [] J M R (stL X (d + 20) 253 [(zi 1), (zi i)]) := by
  have hr0 := hr
  obtain ⟨hR, hG, hY, hD, hP, hC, hAc, hS, hTp, hX, hW⟩ := hr0
  have hRr : zRoR R := zRoR_of hR
  have hA0 := hAc
  obtain ⟨a1, a2, a3, a4, a5, a6⟩ := hA0
  have e83 : J 83 1 = J 40 1 := (hS 1 (by decide) (by decide)).1.symm.trans (cH_1 hh)
  have s3 : 0 ≤ J 40 2 ∧ J 40 2 ≤ 4 := (hS 1 (by decide) (by decide)).2.2.1
  have s4 : 0 ≤ J 40 3 ∧ J 40 3 ≤ 60 := (hS 1 (by decide) (by decide)).2.2.2.1
  have s5 : 0 ≤ J 40 1 ∧ J 40 1 < J 34 1 := (hS 1 (by decide) (by decide)).2.2.2.2.1 hh
  show zW _ _ _ _ [some (.ref 0), some (zi 1), some (zi i)] _ _ _ _ _
  refine z_iload rfl rfl ?_
  refine z_callSi (As := [_]) (le := [some _]) rfl rfl (Nat.le_of_ble_eq_true rfl) (Nat.le_of_ble_eq_true rfl) rfl ?_
  refine z_iload rfl rfl ?_
  refine z_if_ltF rfl (by decide) (by decide) ?_
  refine z_iload rfl rfl ?_
  refine z_pushI (z := 6) rfl rfl ?_
  refine z_icmp_geF rfl (by decide) (by decide) (by decide) ?_
  refine z_pushI (z := 1) rfl rfl ?_
  refine z_goto rfl ?_
  refine z_bret rfl rfl (by decide) ?_
  show zW _ _ _ _ _ _ _ _ _ _
  refine z_if_eqF rfl (by decide) (by decide) ?_
  refine z_aload rfl rfl ?_
  refine z_getR (r := 37) rfl rfl (hR _ rm_0_11) ?_
  refine z_iload rfl rfl ?_
  refine z_aald (r := 40) rfl rfl (by decide) (by decide) (hR _ rm_37_1) ?_
  refine z_iload rfl rfl ?_
  refine z_callVi (As := [_]) (le := [some _, some _]) rfl rfl rfl (Nat.le_of_ble_eq_true rfl) (Nat.le_of_ble_eq_true rfl) rfl ?_
  refine z_aload rfl rfl ?_
  refine z_getI (v := 1) rfl rfl (hh) ?_
  refine z_if_neT rfl (by decide) (by decide) ?_
  refine z_aload rfl rfl ?_
  refine z_getI (v := 1) rfl rfl (hh) ?_
  refine z_pushI (z := 2) rfl rfl ?_
  refine z_icmp_eqF rfl (by decide) (by decide) (by decide) ?_
  refine z_pushI (z := (-12)) rfl rfl ?_
  refine z_iret rfl rfl ?_
  show zW _ _ _ _ _ _ _ _ _ _
  refine z_if_geF rfl (by decide) (by decide) ?_
  refine z_pushL (z := (-9223372036854775808)) rfl rfl ?_
  refine z_lret rfl rfl ?_
  refine ⟨_, rfl, ?_⟩
  show zW _ _ _ _ [some (.ref 50), some (zi 1), some (zi i)] _ _ _ _ _
  refine z_aload rfl rfl ?_
  refine z_iload rfl rfl ?_
  refine z_iload rfl rfl ?_
  refine z_callVi (As := [_, _]) (le := [some _, some _, some _]) rfl rfl rfl (Nat.le_of_ble_eq_true rfl) (Nat.le_of_ble_eq_true rfl) rfl ?_
  refine z_iload rfl rfl ?_
  refine z_callSi (As := [_]) (le := [some _]) rfl rfl (Nat.le_of_ble_eq_true rfl) (Nat.le_of_ble_eq_true rfl) rfl ?_
  refine z_iload rfl rfl ?_
  refine z_pushI (z := 0) rfl rfl ?_
  refine z_pushI (z := 5) rfl rfl ?_
  refine z_callSi (As := [_, _, _]) (le := [some _, some _, some _]) rfl rfl (Nat.le_of_ble_eq_true rfl) (Nat.le_of_ble_eq_true rfl) rfl ?_
  refine z_iload rfl rfl ?_
  refine z_iload rfl rfl ?_
  refine z_icmp_ltF rfl (by decide) (by decide) (by decide) ?_
  refine z_iload rfl rfl ?_
  refine z_iload rfl rfl ?_
  refine z_icmp_gtF rfl (by decide) (by decide) (by decide) ?_
  refine z_pushI (z := 1) rfl rfl ?_
  refine z_goto rfl ?_
  refine z_bret rfl rfl (by decide) ?_
  show zW _ _ _ _ _ _ _ _ _ _
  refine z_bret rfl rfl (by decide) ?_
  show zW _ _ _ _ _ _ _ _ _ _
  refine z_if_neT rfl (by decide) (by decide) ?_
  refine z_aload rfl rfl ?_
  refine z_getR (r := 83) rfl rfl (hRr _ rm_50_58 (by decide)) ?_
  refine z_iload rfl rfl ?_
  refine z_iald (v := J 40 1) rfl rfl (by decide) (by decide) (e83) ?_
  refine z_pushI (z := (-1)) rfl rfl ?_
  refine z_icmp_ne rfl (by omega) (by decide) (fun h1 => ?_) (fun h1 => ?_)
  · refine z_aload rfl rfl ?_
    refine z_getR (r := 83) rfl rfl (hRr _ rm_50_58 (by decide)) ?_
    refine z_iload rfl rfl ?_
    refine z_iald (v := J 40 1) rfl rfl (by decide) (by decide) (e83) ?_
    refine z_if_lt rfl (by omega) (fun h2 => ?_) (fun h2 => ?_)
    · refine z_iload rfl rfl ?_
      refine z_pushI (z := 0) rfl rfl ?_
      refine z_aload rfl rfl ?_
      refine z_getR (r := 84) rfl rfl (hRr _ rm_50_59 (by decide)) ?_
      refine z_iload rfl rfl ?_
      refine z_iald (v := J 84 1) rfl rfl (by decide) (by decide) (rfl) ?_
      refine z_pushI (z := 1) rfl rfl ?_
      refine z_isub (e := (J 84 1) - 1) rfl rfl ?_
      refine z_callSi (As := [_, _, _]) (le := [some _, some _, some _]) rfl rfl (Nat.le_of_ble_eq_true rfl) (Nat.le_of_ble_eq_true rfl) rfl ?_
      refine z_iload rfl rfl ?_
      refine z_iload rfl rfl ?_
      refine z_icmp_lt rfl (by omega) (by decide) (fun h3 => ?_) (fun h3 => ?_)
      · refine z_pushI (z := 0) rfl rfl ?_
        refine z_bret rfl rfl (by decide) ?_
        show zW _ _ _ _ _ _ _ _ _ _
        refine z_if_eqT rfl (by decide) (by decide) ?_
        refine z_pushI (z := (-13)) rfl rfl ?_
        refine z_iret rfl rfl ?_
        show zW _ _ _ _ _ _ _ _ _ _
        refine z_if_geF rfl (by decide) (by decide) ?_
        refine z_pushL (z := (-9223372036854775808)) rfl rfl ?_
        refine z_goto rfl ?_
        refine z_lret rfl rfl ?_
        refine ⟨?_, ?_⟩
        · first | rfl | exact congrArg (fun v => some (zl v)) (by omega) | (exfalso; omega)
        · exact hr
      · refine z_iload rfl rfl ?_
        refine z_iload rfl rfl ?_
        refine z_icmp_gt rfl (by omega) (by omega) (fun h4 => ?_) (fun h4 => ?_)
        · refine z_pushI (z := 0) rfl rfl ?_
          refine z_bret rfl rfl (by decide) ?_
          show zW _ _ _ _ _ _ _ _ _ _
          refine z_if_eqT rfl (by decide) (by decide) ?_
          refine z_pushI (z := (-13)) rfl rfl ?_
          refine z_iret rfl rfl ?_
          show zW _ _ _ _ _ _ _ _ _ _
          refine z_if_geF rfl (by decide) (by decide) ?_
          refine z_pushL (z := (-9223372036854775808)) rfl rfl ?_
          refine z_goto rfl ?_
          refine z_lret rfl rfl ?_
          refine ⟨?_, ?_⟩
          · first | rfl | exact congrArg (fun v => some (zl v)) (by omega) | (exfalso; omega)
          · exact hr
        · refine z_pushI (z := 1) rfl rfl ?_
          refine z_goto rfl ?_
          refine z_bret rfl rfl (by decide) ?_
          show zW _ _ _ _ _ _ _ _ _ _
          refine z_if_eqF rfl (by decide) (by decide) ?_
          refine z_pushI (z := 0) rfl rfl ?_
          refine z_goto rfl ?_
          refine z_iret rfl rfl ?_
          show zW _ _ _ _ _ _ _ _ _ _
          refine z_if_geT rfl (by decide) (by decide) ?_
          refine z_aload rfl rfl ?_
          refine z_getR (r := 85) rfl rfl (hRr _ rm_50_60 (by decide)) ?_
          refine z_pushI (z := 60) rfl rfl ?_
          refine z_iload rfl rfl ?_
          refine z_imul (e := 60) rfl rfl ?_
          refine z_iload rfl rfl ?_
          refine z_iadd (e := 60 + i) rfl rfl ?_
          refine z_lald (v := M 85 (60 + i)) rfl rfl (by decide) (by omega) (rfl) ?_
          refine z_lret rfl rfl ?_
          refine ⟨?_, ?_⟩
          · first | rfl | exact congrArg (fun v => some (zl v)) (by omega) | (exfalso; omega)
          · exact hr
    · refine z_pushI (z := (-12)) rfl rfl ?_
      refine z_iret rfl rfl ?_
      show zW _ _ _ _ _ _ _ _ _ _
      refine z_if_geF rfl (by decide) (by decide) ?_
      refine z_pushL (z := (-9223372036854775808)) rfl rfl ?_
      refine z_goto rfl ?_
      refine z_lret rfl rfl ?_
      refine ⟨?_, ?_⟩
      · first | rfl | exact congrArg (fun v => some (zl v)) (by omega) | (exfalso; omega)
      · exact hr
  · refine z_pushI (z := (-11)) rfl rfl ?_
    refine z_iret rfl rfl ?_
    show zW _ _ _ _ _ _ _ _ _ _
    refine z_if_geF rfl (by decide) (by decide) ?_
    refine z_pushL (z := (-9223372036854775808)) rfl rfl ?_
    refine z_goto rfl ?_
    refine z_lret rfl rfl ?_
    refine ⟨?_, ?_⟩
    · first | rfl | exact congrArg (fun v => some (zl v)) (by omega) | (exfalso; omega)
    · exact hr
theorem st_put_11 {X : Nat × (Nat → Int32)} {d : Nat} {J M : zA} {R : zR} {i v : Int} (hr : Rel X J M R) (hi : -2147483648 ≤ i ∧ i < 2147483648) (hv : -9223372036854775808 ≤ v ∧ v < 9223372036854775808) (hh : J 40 0 = 1) : zW X (d + 20) 138 0 (gEn 138 [(.ref 0), (zi 1), (zi i), (zl v)]) [] J M R (stP X (d + 20) 252 [(zi 1), (zi i), (zl v)]) := by
  have hr0 := hr
  obtain ⟨hR, hG, hY, hD, hP, hC, hAc, hS, hTp, hX, hW⟩ := hr0
  have hRr : zRoR R := zRoR_of hR
  have hA0 := hAc
  obtain ⟨a1, a2, a3, a4, a5, a6⟩ := hA0
  have e83 : J 83 1 = J 40 1 := (hS 1 (by decide) (by decide)).1.symm.trans (cH_1 hh)
  have s3 : 0 ≤ J 40 2 ∧ J 40 2 ≤ 4 := (hS 1 (by decide) (by decide)).2.2.1
  have s4 : 0 ≤ J 40 3 ∧ J 40 3 ≤ 60 := (hS 1 (by decide) (by decide)).2.2.2.1
  have s5 : 0 ≤ J 40 1 ∧ J 40 1 < J 34 1 := (hS 1 (by decide) (by decide)).2.2.2.2.1 hh
  show zW _ _ _ _ [some (.ref 0), some (zi 1), some (zi i), some (zl v), none, none] _ _ _ _ _
  refine z_iload rfl rfl ?_
  refine z_callSi (As := [_]) (le := [some _]) rfl rfl (Nat.le_of_ble_eq_true rfl) (Nat.le_of_ble_eq_true rfl) rfl ?_
  refine z_iload rfl rfl ?_
  refine z_if_ltF rfl (by decide) (by decide) ?_
  refine z_iload rfl rfl ?_
  refine z_pushI (z := 6) rfl rfl ?_
  refine z_icmp_geF rfl (by decide) (by decide) (by decide) ?_
  refine z_pushI (z := 1) rfl rfl ?_
  refine z_goto rfl ?_
  refine z_bret rfl rfl (by decide) ?_
  show zW _ _ _ _ _ _ _ _ _ _
  refine z_if_neT rfl (by decide) (by decide) ?_
  refine z_aload rfl rfl ?_
  refine z_getR (r := 37) rfl rfl (hR _ rm_0_11) ?_
  refine z_iload rfl rfl ?_
  refine z_aald (r := 40) rfl rfl (by decide) (by decide) (hR _ rm_37_1) ?_
  refine z_iload rfl rfl ?_
  refine z_callVi (As := [_]) (le := [some _, some _]) rfl rfl rfl (Nat.le_of_ble_eq_true rfl) (Nat.le_of_ble_eq_true rfl) rfl ?_
  refine z_aload rfl rfl ?_
  refine z_getI (v := 1) rfl rfl (hh) ?_
  refine z_if_neT rfl (by decide) (by decide) ?_
  refine z_aload rfl rfl ?_
  refine z_getI (v := 1) rfl rfl (hh) ?_
  refine z_pushI (z := 2) rfl rfl ?_
  refine z_icmp_eqF rfl (by decide) (by decide) (by decide) ?_
  refine z_pushI (z := (-12)) rfl rfl ?_
  refine z_iret rfl rfl ?_
  show zW _ _ _ _ _ _ _ _ _ _
  refine z_istore rfl rfl ?_
  refine z_iload rfl rfl ?_
  refine z_if_geF rfl (by decide) (by decide) ?_
  refine z_iload rfl rfl ?_
  refine z_iret rfl rfl ?_
  refine ⟨_, rfl, ?_⟩
  show zW _ _ _ _ [some (.ref 50), some (zi 1), some (zi i), some (zl v), none, none, none] _ _ _ _ _
  refine z_aload rfl rfl ?_
  refine z_iload rfl rfl ?_
  refine z_iload rfl rfl ?_
  refine z_callVi (As := [_, _]) (le := [some _, some _, some _]) rfl rfl rfl (Nat.le_of_ble_eq_true rfl) (Nat.le_of_ble_eq_true rfl) rfl ?_
  refine z_iload rfl rfl ?_
  refine z_callSi (As := [_]) (le := [some _]) rfl rfl (Nat.le_of_ble_eq_true rfl) (Nat.le_of_ble_eq_true rfl) rfl ?_
  refine z_iload rfl rfl ?_
  refine z_pushI (z := 0) rfl rfl ?_
  refine z_pushI (z := 5) rfl rfl ?_
  refine z_callSi (As := [_, _, _]) (le := [some _, some _, some _]) rfl rfl (Nat.le_of_ble_eq_true rfl) (Nat.le_of_ble_eq_true rfl) rfl ?_
  refine z_iload rfl rfl ?_
  refine z_iload rfl rfl ?_
  refine z_icmp_ltF rfl (by decide) (by decide) (by decide) ?_
  refine z_iload rfl rfl ?_
  refine z_iload rfl rfl ?_
  refine z_icmp_gtF rfl (by decide) (by decide) (by decide) ?_
  refine z_pushI (z := 1) rfl rfl ?_
  refine z_goto rfl ?_
  refine z_bret rfl rfl (by decide) ?_
  show zW _ _ _ _ _ _ _ _ _ _
  refine z_bret rfl rfl (by decide) ?_
  show zW _ _ _ _ _ _ _ _ _ _
  refine z_if_neT rfl (by decide) (by decide) ?_
  refine z_aload rfl rfl ?_
  refine z_getR (r := 83) rfl rfl (hRr _ rm_50_58 (by decide)) ?_
  refine z_iload rfl rfl ?_
  refine z_iald (v := J 40 1) rfl rfl (by decide) (by decide) (e83) ?_
  refine z_pushI (z := (-1)) rfl rfl ?_
  refine z_icmp_ne rfl (by omega) (by decide) (fun h1 => ?_) (fun h1 => ?_)
  · refine z_aload rfl rfl ?_
    refine z_getR (r := 83) rfl rfl (hRr _ rm_50_58 (by decide)) ?_
    refine z_iload rfl rfl ?_
    refine z_iald (v := J 40 1) rfl rfl (by decide) (by decide) (e83) ?_
    refine z_if_lt rfl (by omega) (fun h2 => ?_) (fun h2 => ?_)
    · refine z_iload rfl rfl ?_
      refine z_pushI (z := 0) rfl rfl ?_
      refine z_aload rfl rfl ?_
      refine z_getR (r := 84) rfl rfl (hRr _ rm_50_59 (by decide)) ?_
      refine z_iload rfl rfl ?_
      refine z_iald (v := J 84 1) rfl rfl (by decide) (by decide) (rfl) ?_
      refine z_pushI (z := 1) rfl rfl ?_
      refine z_isub (e := (J 84 1) - 1) rfl rfl ?_
      refine z_callSi (As := [_, _, _]) (le := [some _, some _, some _]) rfl rfl (Nat.le_of_ble_eq_true rfl) (Nat.le_of_ble_eq_true rfl) rfl ?_
      refine z_iload rfl rfl ?_
      refine z_iload rfl rfl ?_
      refine z_icmp_lt rfl (by omega) (by decide) (fun h3 => ?_) (fun h3 => ?_)
      · refine z_pushI (z := 0) rfl rfl ?_
        refine z_bret rfl rfl (by decide) ?_
        show zW _ _ _ _ _ _ _ _ _ _
        refine z_if_eqT rfl (by decide) (by decide) ?_
        refine z_pushI (z := (-13)) rfl rfl ?_
        refine z_iret rfl rfl ?_
        show zW _ _ _ _ _ _ _ _ _ _
        refine z_istore rfl rfl ?_
        refine z_iload rfl rfl ?_
        refine z_if_geF rfl (by decide) (by decide) ?_
        refine z_iload rfl rfl ?_
        refine z_iret rfl rfl ?_
        refine ⟨?_, ?_⟩
        · first | rfl | exact congrArg (fun v => some (zi v)) (by omega) | (exfalso; omega)
        · exact hr
      · refine z_iload rfl rfl ?_
        refine z_iload rfl rfl ?_
        refine z_icmp_gt rfl (by omega) (by omega) (fun h4 => ?_) (fun h4 => ?_)
        · refine z_pushI (z := 0) rfl rfl ?_
          refine z_bret rfl rfl (by decide) ?_
          show zW _ _ _ _ _ _ _ _ _ _
          refine z_if_eqT rfl (by decide) (by decide) ?_
          refine z_pushI (z := (-13)) rfl rfl ?_
          refine z_iret rfl rfl ?_
          show zW _ _ _ _ _ _ _ _ _ _
          refine z_istore rfl rfl ?_
          refine z_iload rfl rfl ?_
          refine z_if_geF rfl (by decide) (by decide) ?_
          refine z_iload rfl rfl ?_
          refine z_iret rfl rfl ?_
          refine ⟨?_, ?_⟩
          · first | rfl | exact congrArg (fun v => some (zi v)) (by omega) | (exfalso; omega)
          · exact hr
        · refine z_pushI (z := 1) rfl rfl ?_
          refine z_goto rfl ?_
          refine z_bret rfl rfl (by decide) ?_
          show zW _ _ _ _ _ _ _ _ _ _
          refine z_if_eqF rfl (by decide) (by decide) ?_
          refine z_pushI (z := 0) rfl rfl ?_
          refine z_goto rfl ?_
          refine z_iret rfl rfl ?_
          show zW _ _ _ _ _ _ _ _ _ _
          refine z_istore rfl rfl ?_
          refine z_iload rfl rfl ?_
          refine z_if_geT rfl (by decide) (by decide) ?_
          refine z_pushI (z := (-2)) rfl rfl ?_
          refine z_aload rfl rfl ?_
          refine z_getR (r := 83) rfl rfl (hRr _ rm_50_58 (by decide)) ?_
          refine z_iload rfl rfl ?_
          refine z_iald (v := J 40 1) rfl rfl (by decide) (by decide) (e83) ?_
          refine z_isub (e := (-2) - (J 40 1)) rfl rfl ?_
          refine z_istore rfl rfl ?_
          refine z_aload rfl rfl ?_
          refine z_getR (r := 85) rfl rfl (hRr _ rm_50_60 (by decide)) ?_
          refine z_pushI (z := 60) rfl rfl ?_
          refine z_iload rfl rfl ?_
          refine z_imul (e := 60) rfl rfl ?_
          refine z_iload rfl rfl ?_
          refine z_iadd (e := 60 + i) rfl rfl ?_
          refine z_iload rfl rfl ?_
          refine z_if_ne rfl (by omega) (fun h5 => ?_) (fun h5 => ?_)
          · refine z_iload rfl rfl ?_
            refine z_pushI (z := 1) rfl rfl ?_
            refine z_icmp_ne rfl (by omega) (by decide) (fun h6 => ?_) (fun h6 => ?_)
            · refine z_iload rfl rfl ?_
              refine z_pushI (z := 2) rfl rfl ?_
              refine z_icmp_ne rfl (by omega) (by decide) (fun h7 => ?_) (fun h7 => ?_)
              · refine z_iload rfl rfl ?_
                refine z_pushI (z := 3) rfl rfl ?_
                refine z_icmp_ne rfl (by omega) (by decide) (fun h8 => ?_) (fun h8 => ?_)
                · refine z_lload rfl rfl ?_
                  refine z_pushL (z := 0) rfl rfl ?_
                  refine z_lcmp_eq rfl rfl (by omega) (by omega) (fun h9 => ?_) (fun h9 => ?_)
                  · refine z_pushL (z := 0) rfl rfl ?_
                    refine z_last (e := 0) rfl rfl (by decide) (by omega) rfl ?_
                    refine z_pushI (z := 1) rfl rfl ?_
                    refine z_iret rfl rfl ?_
                    refine ⟨?_, ?_⟩
                    · first | rfl | exact congrArg (fun v => some (zi v)) (by omega) | (exfalso; omega)
                    · exfalso
                      omega
                  · refine z_pushL (z := 1) rfl rfl ?_
                    refine z_goto rfl ?_
                    refine z_last (e := 1) rfl rfl (by decide) (by omega) rfl ?_
                    refine z_pushI (z := 1) rfl rfl ?_
                    refine z_iret rfl rfl ?_
                    refine ⟨?_, ?_⟩
                    · first | rfl | exact congrArg (fun v => some (zi v)) (by omega) | (exfalso; omega)
                    · exfalso
                      omega
                · refine z_lload rfl rfl ?_
                  refine z_goto rfl ?_
                  refine z_last (e := v) rfl rfl (by decide) (by omega) rfl ?_
                  refine z_pushI (z := 1) rfl rfl ?_
                  refine z_iret rfl rfl ?_
                  refine ⟨?_, ?_⟩
                  · first | rfl | exact congrArg (fun v => some (zi v)) (by omega) | (exfalso; omega)
                  · exfalso
                    omega
              · refine z_lload rfl rfl ?_
                refine z_l2i rfl ?_
                refine z_topn (e := zn v) rfl ?_
                have q10 := zn_r v
                refine z_i2l rfl (by omega) ?_
                refine z_goto rfl ?_
                refine z_last (e := zn v) rfl rfl (by decide) (by omega) rfl ?_
                refine z_pushI (z := 1) rfl rfl ?_
                refine z_iret rfl rfl ?_
                refine ⟨?_, ?_⟩
                · first | rfl | exact congrArg (fun v => some (zi v)) (by omega) | (exfalso; omega)
                · exfalso
                  omega
            · refine z_lload rfl rfl ?_
              refine z_l2i rfl ?_
              refine z_i2s (e := zh v) rfl rfl ?_
              have q11 := zh_r v
              refine z_i2l rfl (by omega) ?_
              refine z_goto rfl ?_
              refine z_last (e := zh v) rfl rfl (by decide) (by omega) rfl ?_
              refine z_pushI (z := 1) rfl rfl ?_
              refine z_iret rfl rfl ?_
              refine ⟨?_, ?_⟩
              · first | rfl | exact congrArg (fun v => some (zi v)) (by omega) | (exfalso; omega)
              · exfalso
                omega
          · refine z_lload rfl rfl ?_
            refine z_l2i rfl ?_
            refine z_i2b (e := zb v) rfl rfl ?_
            have q12 := zb_r v
            refine z_i2l rfl (by omega) ?_
            refine z_goto rfl ?_
            refine z_last (e := zb v) rfl rfl (by decide) (by omega) rfl ?_
            refine z_pushI (z := 1) rfl rfl ?_
            refine z_iret rfl rfl ?_
            refine ⟨?_, ?_⟩
            · first | rfl | exact congrArg (fun v => some (zi v)) (by omega) | (exfalso; omega)
            · exfalso
              omega
    · refine z_pushI (z := (-12)) rfl rfl ?_
      refine z_iret rfl rfl ?_
      show zW _ _ _ _ _ _ _ _ _ _
      refine z_istore rfl rfl ?_
      refine z_iload rfl rfl ?_
      refine z_if_geF rfl (by decide) (by decide) ?_
      refine z_iload rfl rfl ?_
      refine z_iret rfl rfl ?_
      refine ⟨?_, ?_⟩
      · first | rfl | exact congrArg (fun v => some (zi v)) (by omega) | (exfalso; omega)
      · exact hr
  · refine z_pushI (z := (-11)) rfl rfl ?_
    refine z_iret rfl rfl ?_
    show zW _ _ _ _ _ _ _ _ _ _
    refine z_istore rfl rfl ?_
    refine z_iload rfl rfl ?_
    refine z_if_geF rfl (by decide) (by decide) ?_
    refine z_iload rfl rfl ?_
    refine z_iret rfl rfl ?_
    refine ⟨?_, ?_⟩
    · first | rfl | exact congrArg (fun v => some (zi v)) (by omega) | (exfalso; omega)
    · exact hr
theorem st_element_12 {X : Nat × (Nat → Int32)} {d : Nat} {J M : zA} {R : zR} {i : Int} (hr : Rel X J M R) (hi : -2147483648 ≤ i ∧ i < 2147483648) (hh : J 40 0 = 2) : zW X (d + 20) 139 0 (gEn 139 [(.ref 0), (zi 1), (zi i)]) [] J M R (stL X (d + 20) 253 [(zi 1), (zi i)]) := by
  have hr0 := hr
  obtain ⟨hR, hG, hY, hD, hP, hC, hAc, hS, hTp, hX, hW⟩ := hr0
  have hRr : zRoR R := zRoR_of hR
  have hA0 := hAc
  obtain ⟨a1, a2, a3, a4, a5, a6⟩ := hA0
  have e83 : J 83 1 = -2 - J 40 2 := (hS 1 (by decide) (by decide)).1.symm.trans (cH_2 hh)
  have s3 : 0 ≤ J 40 2 ∧ J 40 2 ≤ 4 := (hS 1 (by decide) (by decide)).2.2.1
  have s4 : 0 ≤ J 40 3 ∧ J 40 3 ≤ 60 := (hS 1 (by decide) (by decide)).2.2.2.1
  have s6 := (hS 1 (by decide) (by decide)).2.2.2.2.2 hh
  have s7 : J 84 1 = J 40 3 := s6.1.symm
  have s8 : ∀ i, 0 ≤ i → i < J 40 3 → M 41 i = M 85 (60 + i) := s6.2.1
  show zW _ _ _ _ [some (.ref 0), some (zi 1), some (zi i)] _ _ _ _ _
  refine z_iload rfl rfl ?_
  refine z_callSi (As := [_]) (le := [some _]) rfl rfl (Nat.le_of_ble_eq_true rfl) (Nat.le_of_ble_eq_true rfl) rfl ?_
  refine z_iload rfl rfl ?_
  refine z_if_ltF rfl (by decide) (by decide) ?_
  refine z_iload rfl rfl ?_
  refine z_pushI (z := 6) rfl rfl ?_
  refine z_icmp_geF rfl (by decide) (by decide) (by decide) ?_
  refine z_pushI (z := 1) rfl rfl ?_
  refine z_goto rfl ?_
  refine z_bret rfl rfl (by decide) ?_
  show zW _ _ _ _ _ _ _ _ _ _
  refine z_if_eqF rfl (by decide) (by decide) ?_
  refine z_aload rfl rfl ?_
  refine z_getR (r := 37) rfl rfl (hR _ rm_0_11) ?_
  refine z_iload rfl rfl ?_
  refine z_aald (r := 40) rfl rfl (by decide) (by decide) (hR _ rm_37_1) ?_
  refine z_iload rfl rfl ?_
  refine z_callVi (As := [_]) (le := [some _, some _]) rfl rfl rfl (Nat.le_of_ble_eq_true rfl) (Nat.le_of_ble_eq_true rfl) rfl ?_
  refine z_aload rfl rfl ?_
  refine z_getI (v := 2) rfl rfl (hh) ?_
  refine z_if_neT rfl (by decide) (by decide) ?_
  refine z_aload rfl rfl ?_
  refine z_getI (v := 2) rfl rfl (hh) ?_
  refine z_pushI (z := 2) rfl rfl ?_
  refine z_icmp_eqT rfl (by decide) (by decide) (by decide) ?_
  refine z_iload rfl rfl ?_
  refine z_if_lt rfl (by omega) (fun h1 => ?_) (fun h1 => ?_)
  · refine z_pushI (z := (-13)) rfl rfl ?_
    refine z_iret rfl rfl ?_
    show zW _ _ _ _ _ _ _ _ _ _
    refine z_if_geF rfl (by decide) (by decide) ?_
    refine z_pushL (z := (-9223372036854775808)) rfl rfl ?_
    refine z_lret rfl rfl ?_
    refine ⟨_, rfl, ?_⟩
    show zW _ _ _ _ [some (.ref 50), some (zi 1), some (zi i)] _ _ _ _ _
    refine z_aload rfl rfl ?_
    refine z_iload rfl rfl ?_
    refine z_iload rfl rfl ?_
    refine z_callVi (As := [_, _]) (le := [some _, some _, some _]) rfl rfl rfl (Nat.le_of_ble_eq_true rfl) (Nat.le_of_ble_eq_true rfl) rfl ?_
    refine z_iload rfl rfl ?_
    refine z_callSi (As := [_]) (le := [some _]) rfl rfl (Nat.le_of_ble_eq_true rfl) (Nat.le_of_ble_eq_true rfl) rfl ?_
    refine z_iload rfl rfl ?_
    refine z_pushI (z := 0) rfl rfl ?_
    refine z_pushI (z := 5) rfl rfl ?_
    refine z_callSi (As := [_, _, _]) (le := [some _, some _, some _]) rfl rfl (Nat.le_of_ble_eq_true rfl) (Nat.le_of_ble_eq_true rfl) rfl ?_
    refine z_iload rfl rfl ?_
    refine z_iload rfl rfl ?_
    refine z_icmp_ltF rfl (by decide) (by decide) (by decide) ?_
    refine z_iload rfl rfl ?_
    refine z_iload rfl rfl ?_
    refine z_icmp_gtF rfl (by decide) (by decide) (by decide) ?_
    refine z_pushI (z := 1) rfl rfl ?_
    refine z_goto rfl ?_
    refine z_bret rfl rfl (by decide) ?_
    show zW _ _ _ _ _ _ _ _ _ _
    refine z_bret rfl rfl (by decide) ?_
    show zW _ _ _ _ _ _ _ _ _ _
    refine z_if_neT rfl (by decide) (by decide) ?_
    refine z_aload rfl rfl ?_
    refine z_getR (r := 83) rfl rfl (hRr _ rm_50_58 (by decide)) ?_
    refine z_iload rfl rfl ?_
    refine z_iald (v := (-2) - (J 40 2)) rfl rfl (by decide) (by decide) (e83) ?_
    refine z_pushI (z := (-1)) rfl rfl ?_
    refine z_icmp_ne rfl (by omega) (by decide) (fun h2 => ?_) (fun h2 => ?_)
    · refine z_aload rfl rfl ?_
      refine z_getR (r := 83) rfl rfl (hRr _ rm_50_58 (by decide)) ?_
      refine z_iload rfl rfl ?_
      refine z_iald (v := (-2) - (J 40 2)) rfl rfl (by decide) (by decide) (e83) ?_
      refine z_if_lt rfl (by omega) (fun h3 => ?_) (fun h3 => ?_)
      · refine z_iload rfl rfl ?_
        refine z_pushI (z := 0) rfl rfl ?_
        refine z_aload rfl rfl ?_
        refine z_getR (r := 84) rfl rfl (hRr _ rm_50_59 (by decide)) ?_
        refine z_iload rfl rfl ?_
        refine z_iald (v := J 40 3) rfl rfl (by decide) (by decide) (s7) ?_
        refine z_pushI (z := 1) rfl rfl ?_
        refine z_isub (e := (J 40 3) - 1) rfl rfl ?_
        refine z_callSi (As := [_, _, _]) (le := [some _, some _, some _]) rfl rfl (Nat.le_of_ble_eq_true rfl) (Nat.le_of_ble_eq_true rfl) rfl ?_
        refine z_iload rfl rfl ?_
        refine z_iload rfl rfl ?_
        refine z_icmp_ltT rfl (by omega) (by decide) (by omega) ?_
        refine z_pushI (z := 0) rfl rfl ?_
        refine z_bret rfl rfl (by decide) ?_
        show zW _ _ _ _ _ _ _ _ _ _
        refine z_if_eqT rfl (by decide) (by decide) ?_
        refine z_pushI (z := (-13)) rfl rfl ?_
        refine z_iret rfl rfl ?_
        show zW _ _ _ _ _ _ _ _ _ _
        refine z_if_geF rfl (by decide) (by decide) ?_
        refine z_pushL (z := (-9223372036854775808)) rfl rfl ?_
        refine z_goto rfl ?_
        refine z_lret rfl rfl ?_
        refine ⟨?_, ?_⟩
        · first | rfl | exact congrArg (fun v => some (zl v)) (by omega) | (exfalso; omega)
        · exact hr
      · refine z_pushI (z := (-12)) rfl rfl ?_
        refine z_iret rfl rfl ?_
        show zW _ _ _ _ _ _ _ _ _ _
        refine z_if_geF rfl (by decide) (by decide) ?_
        refine z_pushL (z := (-9223372036854775808)) rfl rfl ?_
        refine z_goto rfl ?_
        refine z_lret rfl rfl ?_
        refine ⟨?_, ?_⟩
        · first | rfl | exact congrArg (fun v => some (zl v)) (by omega) | (exfalso; omega)
        · exact hr
    · refine z_pushI (z := (-11)) rfl rfl ?_
      refine z_iret rfl rfl ?_
      show zW _ _ _ _ _ _ _ _ _ _
      refine z_if_geF rfl (by decide) (by decide) ?_
      refine z_pushL (z := (-9223372036854775808)) rfl rfl ?_
      refine z_goto rfl ?_
      refine z_lret rfl rfl ?_
      refine ⟨?_, ?_⟩
      · first | rfl | exact congrArg (fun v => some (zl v)) (by omega) | (exfalso; omega)
      · exact hr
  · refine z_iload rfl rfl ?_
    refine z_aload rfl rfl ?_
    refine z_getI (v := J 40 3) rfl rfl (rfl) ?_
    refine z_icmp_ge rfl (by omega) (by omega) (fun h2 => ?_) (fun h2 => ?_)
    · refine z_pushI (z := (-13)) rfl rfl ?_
      refine z_iret rfl rfl ?_
      show zW _ _ _ _ _ _ _ _ _ _
      refine z_if_geF rfl (by decide) (by decide) ?_
      refine z_pushL (z := (-9223372036854775808)) rfl rfl ?_
      refine z_lret rfl rfl ?_
      refine ⟨_, rfl, ?_⟩
      show zW _ _ _ _ [some (.ref 50), some (zi 1), some (zi i)] _ _ _ _ _
      refine z_aload rfl rfl ?_
      refine z_iload rfl rfl ?_
      refine z_iload rfl rfl ?_
      refine z_callVi (As := [_, _]) (le := [some _, some _, some _]) rfl rfl rfl (Nat.le_of_ble_eq_true rfl) (Nat.le_of_ble_eq_true rfl) rfl ?_
      refine z_iload rfl rfl ?_
      refine z_callSi (As := [_]) (le := [some _]) rfl rfl (Nat.le_of_ble_eq_true rfl) (Nat.le_of_ble_eq_true rfl) rfl ?_
      refine z_iload rfl rfl ?_
      refine z_pushI (z := 0) rfl rfl ?_
      refine z_pushI (z := 5) rfl rfl ?_
      refine z_callSi (As := [_, _, _]) (le := [some _, some _, some _]) rfl rfl (Nat.le_of_ble_eq_true rfl) (Nat.le_of_ble_eq_true rfl) rfl ?_
      refine z_iload rfl rfl ?_
      refine z_iload rfl rfl ?_
      refine z_icmp_ltF rfl (by decide) (by decide) (by decide) ?_
      refine z_iload rfl rfl ?_
      refine z_iload rfl rfl ?_
      refine z_icmp_gtF rfl (by decide) (by decide) (by decide) ?_
      refine z_pushI (z := 1) rfl rfl ?_
      refine z_goto rfl ?_
      refine z_bret rfl rfl (by decide) ?_
      show zW _ _ _ _ _ _ _ _ _ _
      refine z_bret rfl rfl (by decide) ?_
      show zW _ _ _ _ _ _ _ _ _ _
      refine z_if_neT rfl (by decide) (by decide) ?_
      refine z_aload rfl rfl ?_
      refine z_getR (r := 83) rfl rfl (hRr _ rm_50_58 (by decide)) ?_
      refine z_iload rfl rfl ?_
      refine z_iald (v := (-2) - (J 40 2)) rfl rfl (by decide) (by decide) (e83) ?_
      refine z_pushI (z := (-1)) rfl rfl ?_
      refine z_icmp_ne rfl (by omega) (by decide) (fun h3 => ?_) (fun h3 => ?_)
      · refine z_aload rfl rfl ?_
        refine z_getR (r := 83) rfl rfl (hRr _ rm_50_58 (by decide)) ?_
        refine z_iload rfl rfl ?_
        refine z_iald (v := (-2) - (J 40 2)) rfl rfl (by decide) (by decide) (e83) ?_
        refine z_if_lt rfl (by omega) (fun h4 => ?_) (fun h4 => ?_)
        · refine z_iload rfl rfl ?_
          refine z_pushI (z := 0) rfl rfl ?_
          refine z_aload rfl rfl ?_
          refine z_getR (r := 84) rfl rfl (hRr _ rm_50_59 (by decide)) ?_
          refine z_iload rfl rfl ?_
          refine z_iald (v := J 40 3) rfl rfl (by decide) (by decide) (s7) ?_
          refine z_pushI (z := 1) rfl rfl ?_
          refine z_isub (e := (J 40 3) - 1) rfl rfl ?_
          refine z_callSi (As := [_, _, _]) (le := [some _, some _, some _]) rfl rfl (Nat.le_of_ble_eq_true rfl) (Nat.le_of_ble_eq_true rfl) rfl ?_
          refine z_iload rfl rfl ?_
          refine z_iload rfl rfl ?_
          refine z_icmp_ltF rfl (by omega) (by decide) (by omega) ?_
          refine z_iload rfl rfl ?_
          refine z_iload rfl rfl ?_
          refine z_icmp_gtT rfl (by omega) (by omega) (by omega) ?_
          refine z_pushI (z := 0) rfl rfl ?_
          refine z_bret rfl rfl (by decide) ?_
          show zW _ _ _ _ _ _ _ _ _ _
          refine z_if_eqT rfl (by decide) (by decide) ?_
          refine z_pushI (z := (-13)) rfl rfl ?_
          refine z_iret rfl rfl ?_
          show zW _ _ _ _ _ _ _ _ _ _
          refine z_if_geF rfl (by decide) (by decide) ?_
          refine z_pushL (z := (-9223372036854775808)) rfl rfl ?_
          refine z_goto rfl ?_
          refine z_lret rfl rfl ?_
          refine ⟨?_, ?_⟩
          · first | rfl | exact congrArg (fun v => some (zl v)) (by omega) | (exfalso; omega)
          · exact hr
        · refine z_pushI (z := (-12)) rfl rfl ?_
          refine z_iret rfl rfl ?_
          show zW _ _ _ _ _ _ _ _ _ _
          refine z_if_geF rfl (by decide) (by decide) ?_
          refine z_pushL (z := (-9223372036854775808)) rfl rfl ?_
          refine z_goto rfl ?_
          refine z_lret rfl rfl ?_
          refine ⟨?_, ?_⟩
          · first | rfl | exact congrArg (fun v => some (zl v)) (by omega) | (exfalso; omega)
          · exact hr
      · refine z_pushI (z := (-11)) rfl rfl ?_
        refine z_iret rfl rfl ?_
        show zW _ _ _ _ _ _ _ _ _ _
        refine z_if_geF rfl (by decide) (by decide) ?_
        refine z_pushL (z := (-9223372036854775808)) rfl rfl ?_
        refine z_goto rfl ?_
        refine z_lret rfl rfl ?_
        refine ⟨?_, ?_⟩
        · first | rfl | exact congrArg (fun v => some (zl v)) (by omega) | (exfalso; omega)
        · exact hr
    · refine z_pushI (z := 0) rfl rfl ?_
      refine z_goto rfl ?_
      refine z_iret rfl rfl ?_
      show zW _ _ _ _ _ _ _ _ _ _
      refine z_if_geT rfl (by decide) (by decide) ?_
      refine z_aload rfl rfl ?_
      refine z_getR (r := 37) rfl rfl (hR _ rm_0_11) ?_
      refine z_iload rfl rfl ?_
      refine z_aald (r := 40) rfl rfl (by decide) (by decide) (hR _ rm_37_1) ?_
      refine z_iload rfl rfl ?_
      refine z_callVi (As := [_]) (le := [some _, some _]) rfl rfl rfl (Nat.le_of_ble_eq_true rfl) (Nat.le_of_ble_eq_true rfl) rfl ?_
      refine z_iload rfl rfl ?_
      refine z_if_ltF rfl (by omega) (by omega) ?_
      refine z_iload rfl rfl ?_
      refine z_aload rfl rfl ?_
      refine z_getI (v := J 40 3) rfl rfl (rfl) ?_
      refine z_icmp_geF rfl (by omega) (by omega) (by omega) ?_
      refine z_aload rfl rfl ?_
      refine z_getR (r := 41) rfl rfl (hR _ rm_40_4) ?_
      refine z_iload rfl rfl ?_
      refine z_lald (v := M 41 i) rfl rfl (by decide) (by omega) (rfl) ?_
      refine z_goto rfl ?_
      refine z_lret rfl rfl ?_
      show zW _ _ _ _ _ _ _ _ _ _
      refine z_lret rfl rfl ?_
      refine ⟨_, rfl, ?_⟩
      show zW _ _ _ _ [some (.ref 50), some (zi 1), some (zi i)] _ _ _ _ _
      refine z_aload rfl rfl ?_
      refine z_iload rfl rfl ?_
      refine z_iload rfl rfl ?_
      refine z_callVi (As := [_, _]) (le := [some _, some _, some _]) rfl rfl rfl (Nat.le_of_ble_eq_true rfl) (Nat.le_of_ble_eq_true rfl) rfl ?_
      refine z_iload rfl rfl ?_
      refine z_callSi (As := [_]) (le := [some _]) rfl rfl (Nat.le_of_ble_eq_true rfl) (Nat.le_of_ble_eq_true rfl) rfl ?_
      refine z_iload rfl rfl ?_
      refine z_pushI (z := 0) rfl rfl ?_
      refine z_pushI (z := 5) rfl rfl ?_
      refine z_callSi (As := [_, _, _]) (le := [some _, some _, some _]) rfl rfl (Nat.le_of_ble_eq_true rfl) (Nat.le_of_ble_eq_true rfl) rfl ?_
      refine z_iload rfl rfl ?_
      refine z_iload rfl rfl ?_
      refine z_icmp_ltF rfl (by decide) (by decide) (by decide) ?_
      refine z_iload rfl rfl ?_
      refine z_iload rfl rfl ?_
      refine z_icmp_gtF rfl (by decide) (by decide) (by decide) ?_
      refine z_pushI (z := 1) rfl rfl ?_
      refine z_goto rfl ?_
      refine z_bret rfl rfl (by decide) ?_
      show zW _ _ _ _ _ _ _ _ _ _
      refine z_bret rfl rfl (by decide) ?_
      show zW _ _ _ _ _ _ _ _ _ _
      refine z_if_neT rfl (by decide) (by decide) ?_
      refine z_aload rfl rfl ?_
      refine z_getR (r := 83) rfl rfl (hRr _ rm_50_58 (by decide)) ?_
      refine z_iload rfl rfl ?_
      refine z_iald (v := (-2) - (J 40 2)) rfl rfl (by decide) (by decide) (e83) ?_
      refine z_pushI (z := (-1)) rfl rfl ?_
      refine z_icmp_ne rfl (by omega) (by decide) (fun h3 => ?_) (fun h3 => ?_)
      · refine z_aload rfl rfl ?_
        refine z_getR (r := 83) rfl rfl (hRr _ rm_50_58 (by decide)) ?_
        refine z_iload rfl rfl ?_
        refine z_iald (v := (-2) - (J 40 2)) rfl rfl (by decide) (by decide) (e83) ?_
        refine z_if_lt rfl (by omega) (fun h4 => ?_) (fun h4 => ?_)
        · refine z_iload rfl rfl ?_
          refine z_pushI (z := 0) rfl rfl ?_
          refine z_aload rfl rfl ?_
          refine z_getR (r := 84) rfl rfl (hRr _ rm_50_59 (by decide)) ?_
          refine z_iload rfl rfl ?_
          refine z_iald (v := J 40 3) rfl rfl (by decide) (by decide) (s7) ?_
          refine z_pushI (z := 1) rfl rfl ?_
          refine z_isub (e := (J 40 3) - 1) rfl rfl ?_
          refine z_callSi (As := [_, _, _]) (le := [some _, some _, some _]) rfl rfl (Nat.le_of_ble_eq_true rfl) (Nat.le_of_ble_eq_true rfl) rfl ?_
          refine z_iload rfl rfl ?_
          refine z_iload rfl rfl ?_
          refine z_icmp_ltF rfl (by omega) (by decide) (by omega) ?_
          refine z_iload rfl rfl ?_
          refine z_iload rfl rfl ?_
          refine z_icmp_gtF rfl (by omega) (by omega) (by omega) ?_
          refine z_pushI (z := 1) rfl rfl ?_
          refine z_goto rfl ?_
          refine z_bret rfl rfl (by decide) ?_
          show zW _ _ _ _ _ _ _ _ _ _
          refine z_if_eqF rfl (by decide) (by decide) ?_
          refine z_pushI (z := 0) rfl rfl ?_
          refine z_goto rfl ?_
          refine z_iret rfl rfl ?_
          show zW _ _ _ _ _ _ _ _ _ _
          refine z_if_geT rfl (by decide) (by decide) ?_
          refine z_aload rfl rfl ?_
          refine z_getR (r := 85) rfl rfl (hRr _ rm_50_60 (by decide)) ?_
          refine z_pushI (z := 60) rfl rfl ?_
          refine z_iload rfl rfl ?_
          refine z_imul (e := 60) rfl rfl ?_
          refine z_iload rfl rfl ?_
          refine z_iadd (e := 60 + i) rfl rfl ?_
          refine z_lald (v := M 85 (60 + i)) rfl rfl (by decide) (by omega) (rfl) ?_
          refine z_lret rfl rfl ?_
          refine ⟨?_, ?_⟩
          · first | exact congrArg (fun v => some (zl v)) (s8 i (by omega) (by omega)).symm | (exfalso; omega)
          · exact hr
        · refine z_pushI (z := (-12)) rfl rfl ?_
          refine z_iret rfl rfl ?_
          show zW _ _ _ _ _ _ _ _ _ _
          refine z_if_geF rfl (by decide) (by decide) ?_
          refine z_pushL (z := (-9223372036854775808)) rfl rfl ?_
          refine z_goto rfl ?_
          refine z_lret rfl rfl ?_
          refine ⟨?_, ?_⟩
          · first | exact congrArg (fun v => some (zl v)) (s8 i (by omega) (by omega)).symm | (exfalso; omega)
          · exact hr
      · refine z_pushI (z := (-11)) rfl rfl ?_
        refine z_iret rfl rfl ?_
        show zW _ _ _ _ _ _ _ _ _ _
        refine z_if_geF rfl (by decide) (by decide) ?_
        refine z_pushL (z := (-9223372036854775808)) rfl rfl ?_
        refine z_goto rfl ?_
        refine z_lret rfl rfl ?_
        refine ⟨?_, ?_⟩
        · first | exact congrArg (fun v => some (zl v)) (s8 i (by omega) (by omega)).symm | (exfalso; omega)
        · exact hr
theorem st_put_120 {X : Nat × (Nat → Int32)} {d : Nat} {J M : zA} {R : zR} {i v : Int} (hr : Rel X J M R) (hi : -2147483648 ≤ i ∧ i < 2147483648) (hv : -9223372036854775808 ≤ v ∧ v < 9223372036854775808) (hh : J 40 0 = 2) (hso : J 40 2 = 0) : zW X (d + 20) 138 0 (gEn 138 [(.ref 0), (zi 1), (zi i), (zl v)]) [] J M R (stP X (d + 20) 252 [(zi 1), (zi i), (zl v)]) := by
  have hr0 := hr
  obtain ⟨hR, hG, hY, hD, hP, hC, hAc, hS, hTp, hX, hW⟩ := hr0
  have hRr : zRoR R := zRoR_of hR
  have e83 : J 83 1 = -2 - J 40 2 := (hS 1 (by decide) (by decide)).1.symm.trans (cH_2 hh)
  have s3 : 0 ≤ J 40 2 ∧ J 40 2 ≤ 4 := (hS 1 (by decide) (by decide)).2.2.1
  have s4 : 0 ≤ J 40 3 ∧ J 40 3 ≤ 60 := (hS 1 (by decide) (by decide)).2.2.2.1
  have s6 := (hS 1 (by decide) (by decide)).2.2.2.2.2 hh
  have s7 : J 84 1 = J 40 3 := s6.1.symm
  have s8 : ∀ i, 0 ≤ i → i < J 40 3 → M 41 i = M 85 (60 + i) := s6.2.1
  show zW _ _ _ _ [some (.ref 0), some (zi 1), some (zi i), some (zl v), none, none] _ _ _ _ _
  refine z_iload rfl rfl ?_
  refine z_callSi (As := [_]) (le := [some _]) rfl rfl (Nat.le_of_ble_eq_true rfl) (Nat.le_of_ble_eq_true rfl) rfl ?_
  refine z_iload rfl rfl ?_
  refine z_if_ltF rfl (by decide) (by decide) ?_
  refine z_iload rfl rfl ?_
  refine z_pushI (z := 6) rfl rfl ?_
  refine z_icmp_geF rfl (by decide) (by decide) (by decide) ?_
  refine z_pushI (z := 1) rfl rfl ?_
  refine z_goto rfl ?_
  refine z_bret rfl rfl (by decide) ?_
  show zW _ _ _ _ _ _ _ _ _ _
  refine z_if_neT rfl (by decide) (by decide) ?_
  refine z_aload rfl rfl ?_
  refine z_getR (r := 37) rfl rfl (hR _ rm_0_11) ?_
  refine z_iload rfl rfl ?_
  refine z_aald (r := 40) rfl rfl (by decide) (by decide) (hR _ rm_37_1) ?_
  refine z_iload rfl rfl ?_
  refine z_callVi (As := [_]) (le := [some _, some _]) rfl rfl rfl (Nat.le_of_ble_eq_true rfl) (Nat.le_of_ble_eq_true rfl) rfl ?_
  refine z_aload rfl rfl ?_
  refine z_getI (v := 2) rfl rfl (hh) ?_
  refine z_if_neT rfl (by decide) (by decide) ?_
  refine z_aload rfl rfl ?_
  refine z_getI (v := 2) rfl rfl (hh) ?_
  refine z_pushI (z := 2) rfl rfl ?_
  refine z_icmp_eqT rfl (by decide) (by decide) (by decide) ?_
  refine z_iload rfl rfl ?_
  refine z_if_lt rfl (by omega) (fun h1 => ?_) (fun h1 => ?_)
  · refine z_pushI (z := (-13)) rfl rfl ?_
    refine z_iret rfl rfl ?_
    show zW _ _ _ _ _ _ _ _ _ _
    refine z_istore rfl rfl ?_
    refine z_iload rfl rfl ?_
    refine z_if_geF rfl (by decide) (by decide) ?_
    refine z_iload rfl rfl ?_
    refine z_iret rfl rfl ?_
    refine ⟨_, rfl, ?_⟩
    show zW _ _ _ _ [some (.ref 50), some (zi 1), some (zi i), some (zl v), none, none, none] _ _ _ _ _
    refine z_aload rfl rfl ?_
    refine z_iload rfl rfl ?_
    refine z_iload rfl rfl ?_
    refine z_callVi (As := [_, _]) (le := [some _, some _, some _]) rfl rfl rfl (Nat.le_of_ble_eq_true rfl) (Nat.le_of_ble_eq_true rfl) rfl ?_
    refine z_iload rfl rfl ?_
    refine z_callSi (As := [_]) (le := [some _]) rfl rfl (Nat.le_of_ble_eq_true rfl) (Nat.le_of_ble_eq_true rfl) rfl ?_
    refine z_iload rfl rfl ?_
    refine z_pushI (z := 0) rfl rfl ?_
    refine z_pushI (z := 5) rfl rfl ?_
    refine z_callSi (As := [_, _, _]) (le := [some _, some _, some _]) rfl rfl (Nat.le_of_ble_eq_true rfl) (Nat.le_of_ble_eq_true rfl) rfl ?_
    refine z_iload rfl rfl ?_
    refine z_iload rfl rfl ?_
    refine z_icmp_ltF rfl (by decide) (by decide) (by decide) ?_
    refine z_iload rfl rfl ?_
    refine z_iload rfl rfl ?_
    refine z_icmp_gtF rfl (by decide) (by decide) (by decide) ?_
    refine z_pushI (z := 1) rfl rfl ?_
    refine z_goto rfl ?_
    refine z_bret rfl rfl (by decide) ?_
    show zW _ _ _ _ _ _ _ _ _ _
    refine z_bret rfl rfl (by decide) ?_
    show zW _ _ _ _ _ _ _ _ _ _
    refine z_if_neT rfl (by decide) (by decide) ?_
    refine z_aload rfl rfl ?_
    refine z_getR (r := 83) rfl rfl (hRr _ rm_50_58 (by decide)) ?_
    refine z_iload rfl rfl ?_
    refine z_iald (v := (-2)) rfl rfl (by decide) (by decide) ((e83.trans (by rw [hso]; rfl))) ?_
    refine z_pushI (z := (-1)) rfl rfl ?_
    refine z_icmp_neT rfl (by decide) (by decide) (by decide) ?_
    refine z_aload rfl rfl ?_
    refine z_getR (r := 83) rfl rfl (hRr _ rm_50_58 (by decide)) ?_
    refine z_iload rfl rfl ?_
    refine z_iald (v := (-2)) rfl rfl (by decide) (by decide) ((e83.trans (by rw [hso]; rfl))) ?_
    refine z_if_ltT rfl (by decide) (by decide) ?_
    refine z_iload rfl rfl ?_
    refine z_pushI (z := 0) rfl rfl ?_
    refine z_aload rfl rfl ?_
    refine z_getR (r := 84) rfl rfl (hRr _ rm_50_59 (by decide)) ?_
    refine z_iload rfl rfl ?_
    refine z_iald (v := J 40 3) rfl rfl (by decide) (by decide) (s7) ?_
    refine z_pushI (z := 1) rfl rfl ?_
    refine z_isub (e := (J 40 3) - 1) rfl rfl ?_
    refine z_callSi (As := [_, _, _]) (le := [some _, some _, some _]) rfl rfl (Nat.le_of_ble_eq_true rfl) (Nat.le_of_ble_eq_true rfl) rfl ?_
    refine z_iload rfl rfl ?_
    refine z_iload rfl rfl ?_
    refine z_icmp_ltT rfl (by omega) (by decide) (by omega) ?_
    refine z_pushI (z := 0) rfl rfl ?_
    refine z_bret rfl rfl (by decide) ?_
    show zW _ _ _ _ _ _ _ _ _ _
    refine z_if_eqT rfl (by decide) (by decide) ?_
    refine z_pushI (z := (-13)) rfl rfl ?_
    refine z_iret rfl rfl ?_
    show zW _ _ _ _ _ _ _ _ _ _
    refine z_istore rfl rfl ?_
    refine z_iload rfl rfl ?_
    refine z_if_geF rfl (by decide) (by decide) ?_
    refine z_iload rfl rfl ?_
    refine z_iret rfl rfl ?_
    refine ⟨?_, ?_⟩
    · first | rfl | exact congrArg (fun v => some (zi v)) (by omega) | (exfalso; omega)
    · exact hr
  · refine z_iload rfl rfl ?_
    refine z_aload rfl rfl ?_
    refine z_getI (v := J 40 3) rfl rfl (rfl) ?_
    refine z_icmp_ge rfl (by omega) (by omega) (fun h2 => ?_) (fun h2 => ?_)
    · refine z_pushI (z := (-13)) rfl rfl ?_
      refine z_iret rfl rfl ?_
      show zW _ _ _ _ _ _ _ _ _ _
      refine z_istore rfl rfl ?_
      refine z_iload rfl rfl ?_
      refine z_if_geF rfl (by decide) (by decide) ?_
      refine z_iload rfl rfl ?_
      refine z_iret rfl rfl ?_
      refine ⟨_, rfl, ?_⟩
      show zW _ _ _ _ [some (.ref 50), some (zi 1), some (zi i), some (zl v), none, none, none] _ _ _ _ _
      refine z_aload rfl rfl ?_
      refine z_iload rfl rfl ?_
      refine z_iload rfl rfl ?_
      refine z_callVi (As := [_, _]) (le := [some _, some _, some _]) rfl rfl rfl (Nat.le_of_ble_eq_true rfl) (Nat.le_of_ble_eq_true rfl) rfl ?_
      refine z_iload rfl rfl ?_
      refine z_callSi (As := [_]) (le := [some _]) rfl rfl (Nat.le_of_ble_eq_true rfl) (Nat.le_of_ble_eq_true rfl) rfl ?_
      refine z_iload rfl rfl ?_
      refine z_pushI (z := 0) rfl rfl ?_
      refine z_pushI (z := 5) rfl rfl ?_
      refine z_callSi (As := [_, _, _]) (le := [some _, some _, some _]) rfl rfl (Nat.le_of_ble_eq_true rfl) (Nat.le_of_ble_eq_true rfl) rfl ?_
      refine z_iload rfl rfl ?_
      refine z_iload rfl rfl ?_
      refine z_icmp_ltF rfl (by decide) (by decide) (by decide) ?_
      refine z_iload rfl rfl ?_
      refine z_iload rfl rfl ?_
      refine z_icmp_gtF rfl (by decide) (by decide) (by decide) ?_
      refine z_pushI (z := 1) rfl rfl ?_
      refine z_goto rfl ?_
      refine z_bret rfl rfl (by decide) ?_
      show zW _ _ _ _ _ _ _ _ _ _
      refine z_bret rfl rfl (by decide) ?_
      show zW _ _ _ _ _ _ _ _ _ _
      refine z_if_neT rfl (by decide) (by decide) ?_
      refine z_aload rfl rfl ?_
      refine z_getR (r := 83) rfl rfl (hRr _ rm_50_58 (by decide)) ?_
      refine z_iload rfl rfl ?_
      refine z_iald (v := (-2)) rfl rfl (by decide) (by decide) ((e83.trans (by rw [hso]; rfl))) ?_
      refine z_pushI (z := (-1)) rfl rfl ?_
      refine z_icmp_neT rfl (by decide) (by decide) (by decide) ?_
      refine z_aload rfl rfl ?_
      refine z_getR (r := 83) rfl rfl (hRr _ rm_50_58 (by decide)) ?_
      refine z_iload rfl rfl ?_
      refine z_iald (v := (-2)) rfl rfl (by decide) (by decide) ((e83.trans (by rw [hso]; rfl))) ?_
      refine z_if_ltT rfl (by decide) (by decide) ?_
      refine z_iload rfl rfl ?_
      refine z_pushI (z := 0) rfl rfl ?_
      refine z_aload rfl rfl ?_
      refine z_getR (r := 84) rfl rfl (hRr _ rm_50_59 (by decide)) ?_
      refine z_iload rfl rfl ?_
      refine z_iald (v := J 40 3) rfl rfl (by decide) (by decide) (s7) ?_
      refine z_pushI (z := 1) rfl rfl ?_
      refine z_isub (e := (J 40 3) - 1) rfl rfl ?_
      refine z_callSi (As := [_, _, _]) (le := [some _, some _, some _]) rfl rfl (Nat.le_of_ble_eq_true rfl) (Nat.le_of_ble_eq_true rfl) rfl ?_
      refine z_iload rfl rfl ?_
      refine z_iload rfl rfl ?_
      refine z_icmp_ltF rfl (by omega) (by decide) (by omega) ?_
      refine z_iload rfl rfl ?_
      refine z_iload rfl rfl ?_
      refine z_icmp_gtT rfl (by omega) (by omega) (by omega) ?_
      refine z_pushI (z := 0) rfl rfl ?_
      refine z_bret rfl rfl (by decide) ?_
      show zW _ _ _ _ _ _ _ _ _ _
      refine z_if_eqT rfl (by decide) (by decide) ?_
      refine z_pushI (z := (-13)) rfl rfl ?_
      refine z_iret rfl rfl ?_
      show zW _ _ _ _ _ _ _ _ _ _
      refine z_istore rfl rfl ?_
      refine z_iload rfl rfl ?_
      refine z_if_geF rfl (by decide) (by decide) ?_
      refine z_iload rfl rfl ?_
      refine z_iret rfl rfl ?_
      refine ⟨?_, ?_⟩
      · first | rfl | exact congrArg (fun v => some (zi v)) (by omega) | (exfalso; omega)
      · exact hr
    · refine z_pushI (z := 0) rfl rfl ?_
      refine z_goto rfl ?_
      refine z_iret rfl rfl ?_
      show zW _ _ _ _ _ _ _ _ _ _
      refine z_istore rfl rfl ?_
      refine z_iload rfl rfl ?_
      refine z_if_geT rfl (by decide) (by decide) ?_
      refine z_aload rfl rfl ?_
      refine z_getR (r := 37) rfl rfl (hR _ rm_0_11) ?_
      refine z_iload rfl rfl ?_
      refine z_aald (r := 40) rfl rfl (by decide) (by decide) (hR _ rm_37_1) ?_
      refine z_iload rfl rfl ?_
      refine z_lload rfl rfl ?_
      refine z_callVi (As := [_, _]) (le := [some _, some _, some _, none]) rfl rfl rfl (Nat.le_of_ble_eq_true rfl) (Nat.le_of_ble_eq_true rfl) rfl ?_
      refine z_iload rfl rfl ?_
      refine z_if_ltF rfl (by omega) (by omega) ?_
      refine z_iload rfl rfl ?_
      refine z_aload rfl rfl ?_
      refine z_getI (v := J 40 3) rfl rfl (rfl) ?_
      refine z_icmp_geF rfl (by omega) (by omega) (by omega) ?_
      refine z_aload rfl rfl ?_
      refine z_getR (r := 41) rfl rfl (hR _ rm_40_4) ?_
      refine z_iload rfl rfl ?_
      refine z_aload rfl rfl ?_
      refine z_lload rfl rfl ?_
      refine z_callVi (As := [_]) (le := [some _, some _, none]) rfl rfl rfl (Nat.le_of_ble_eq_true rfl) (Nat.le_of_ble_eq_true rfl) rfl ?_
      refine z_aload rfl rfl ?_
      refine z_getI (v := 0) rfl rfl (hso) ?_
      refine z_swI (tg := 40) rfl (by decide) (T := [((0 : Int), 40), ((1 : Int), 45), ((2 : Int), 50), ((3 : Int), 66), ((4 : Int), 54)]) rfl (by decide) ?_
      refine z_lload rfl rfl ?_
      refine z_l2i rfl ?_
      refine z_i2b (e := zb v) rfl rfl ?_
      have q3 := zb_r v
      refine z_i2l rfl (by omega) ?_
      refine z_lret rfl rfl ?_
      show zW _ _ _ _ _ _ _ _ _ _
      refine z_last (e := zb v) rfl rfl (by decide) (by omega) rfl ?_
      refine z_vret rfl rfl ?_
      show zW _ _ _ _ _ _ _ _ _ _
      refine z_pushI (z := 1) rfl rfl ?_
      refine z_iret rfl rfl ?_
      refine ⟨_, rfl, ?_⟩
      show zW _ _ _ _ [some (.ref 50), some (zi 1), some (zi i), some (zl v), none, none, none] _ _ _ _ _
      refine z_aload rfl rfl ?_
      refine z_iload rfl rfl ?_
      refine z_iload rfl rfl ?_
      refine z_callVi (As := [_, _]) (le := [some _, some _, some _]) rfl rfl rfl (Nat.le_of_ble_eq_true rfl) (Nat.le_of_ble_eq_true rfl) rfl ?_
      refine z_iload rfl rfl ?_
      refine z_callSi (As := [_]) (le := [some _]) rfl rfl (Nat.le_of_ble_eq_true rfl) (Nat.le_of_ble_eq_true rfl) rfl ?_
      refine z_iload rfl rfl ?_
      refine z_pushI (z := 0) rfl rfl ?_
      refine z_pushI (z := 5) rfl rfl ?_
      refine z_callSi (As := [_, _, _]) (le := [some _, some _, some _]) rfl rfl (Nat.le_of_ble_eq_true rfl) (Nat.le_of_ble_eq_true rfl) rfl ?_
      refine z_iload rfl rfl ?_
      refine z_iload rfl rfl ?_
      refine z_icmp_ltF rfl (by decide) (by decide) (by decide) ?_
      refine z_iload rfl rfl ?_
      refine z_iload rfl rfl ?_
      refine z_icmp_gtF rfl (by decide) (by decide) (by decide) ?_
      refine z_pushI (z := 1) rfl rfl ?_
      refine z_goto rfl ?_
      refine z_bret rfl rfl (by decide) ?_
      show zW _ _ _ _ _ _ _ _ _ _
      refine z_bret rfl rfl (by decide) ?_
      show zW _ _ _ _ _ _ _ _ _ _
      refine z_if_neT rfl (by decide) (by decide) ?_
      refine z_aload rfl rfl ?_
      refine z_getR (r := 83) rfl rfl (hRr _ rm_50_58 (by decide)) ?_
      refine z_iload rfl rfl ?_
      refine z_iald (v := (-2)) rfl rfl (by decide) (by decide) ((e83.trans (by rw [hso]; rfl))) ?_
      refine z_pushI (z := (-1)) rfl rfl ?_
      refine z_icmp_neT rfl (by decide) (by decide) (by decide) ?_
      refine z_aload rfl rfl ?_
      refine z_getR (r := 83) rfl rfl (hRr _ rm_50_58 (by decide)) ?_
      refine z_iload rfl rfl ?_
      refine z_iald (v := (-2)) rfl rfl (by decide) (by decide) ((e83.trans (by rw [hso]; rfl))) ?_
      refine z_if_ltT rfl (by decide) (by decide) ?_
      refine z_iload rfl rfl ?_
      refine z_pushI (z := 0) rfl rfl ?_
      refine z_aload rfl rfl ?_
      refine z_getR (r := 84) rfl rfl (hRr _ rm_50_59 (by decide)) ?_
      refine z_iload rfl rfl ?_
      refine z_iald (v := J 40 3) rfl rfl (by decide) (by decide) (s7) ?_
      refine z_pushI (z := 1) rfl rfl ?_
      refine z_isub (e := (J 40 3) - 1) rfl rfl ?_
      refine z_callSi (As := [_, _, _]) (le := [some _, some _, some _]) rfl rfl (Nat.le_of_ble_eq_true rfl) (Nat.le_of_ble_eq_true rfl) rfl ?_
      refine z_iload rfl rfl ?_
      refine z_iload rfl rfl ?_
      refine z_icmp_ltF rfl (by omega) (by decide) (by omega) ?_
      refine z_iload rfl rfl ?_
      refine z_iload rfl rfl ?_
      refine z_icmp_gtF rfl (by omega) (by omega) (by omega) ?_
      refine z_pushI (z := 1) rfl rfl ?_
      refine z_goto rfl ?_
      refine z_bret rfl rfl (by decide) ?_
      show zW _ _ _ _ _ _ _ _ _ _
      refine z_if_eqF rfl (by decide) (by decide) ?_
      refine z_pushI (z := 0) rfl rfl ?_
      refine z_goto rfl ?_
      refine z_iret rfl rfl ?_
      show zW _ _ _ _ _ _ _ _ _ _
      refine z_istore rfl rfl ?_
      refine z_iload rfl rfl ?_
      refine z_if_geT rfl (by decide) (by decide) ?_
      refine z_pushI (z := (-2)) rfl rfl ?_
      refine z_aload rfl rfl ?_
      refine z_getR (r := 83) rfl rfl (hRr _ rm_50_58 (by decide)) ?_
      refine z_iload rfl rfl ?_
      refine z_iald (v := (-2)) rfl rfl (by decide) (by decide) ((e83.trans (by rw [hso]; rfl))) ?_
      refine z_isub (e := 0) rfl rfl ?_
      refine z_istore rfl rfl ?_
      refine z_aload rfl rfl ?_
      refine z_getR (r := 85) rfl rfl (hRr _ rm_50_60 (by decide)) ?_
      refine z_pushI (z := 60) rfl rfl ?_
      refine z_iload rfl rfl ?_
      refine z_imul (e := 60) rfl rfl ?_
      refine z_iload rfl rfl ?_
      refine z_iadd (e := 60 + i) rfl rfl ?_
      refine z_iload rfl rfl ?_
      refine z_if_neF rfl (by decide) (by decide) ?_
      refine z_lload rfl rfl ?_
      refine z_l2i rfl ?_
      refine z_i2b (e := zb v) rfl rfl ?_
      have q4 := zb_r v
      refine z_i2l rfl (by omega) ?_
      refine z_goto rfl ?_
      refine z_last (e := zb v) rfl rfl (by decide) (by omega) rfl ?_
      refine z_pushI (z := 1) rfl rfl ?_
      refine z_iret rfl rfl ?_
      refine ⟨?_, ?_⟩
      · first | rfl | exact congrArg (fun v => some (zi v)) (by omega) | (exfalso; omega)
      · have hk := (zK_r (k := (kL [] [])) (A := J))
        have hkm := (zK_x (a := 85) (x := 60 + i) (v := zb v) (zK_x (a := 41) (x := i) (v := zb v) (zK_r (k := (kL [41, 85] [])) (A := M)) rfl) rfl)
        exact ⟨hR, hG, RelY_k hk (by repeat' constructor) (fun p => by repeat' constructor) hY, RelD_k hk (by repeat' constructor) (fun p => by repeat' constructor) hD, RelP_k hk (by repeat' constructor) (fun p => by repeat' constructor) hP, RelC_k hk (by repeat' constructor) (fun p => by repeat' constructor) hC, RelA_k hk (by repeat' constructor) (fun p => by repeat' constructor) hAc, (RelS_one (J := J) (M := M) (c := 1) (fun t t1 t2 te => by have q : t = 0 ∨ t = 1 ∨ t = 2 ∨ t = 3 ∨ t = 4 ∨ t = 5 := (by omega); rcases q with rfl | rfl | rfl | rfl | rfl | rfl <;> first | exact absurd rfl te | exact ⟨fun j => rfl, rfl, rfl⟩) (fun t t1 t2 te => by have q : t = 0 ∨ t = 1 ∨ t = 2 ∨ t = 3 ∨ t = 4 ∨ t = 5 := (by omega); rcases q with rfl | rfl | rfl | rfl | rfl | rfl <;> first | exact absurd rfl te | exact ⟨fun j => rfl, fun j j1 j2 => (zU_x (by omega)).trans (zU_n (by decide))⟩) rfl (show RelS1 _ _ _ from ⟨(hS 1 (by decide) (by decide)).1, (hS 1 (by decide) (by decide)).2.1, s3, s4, (hS 1 (by decide) (by decide)).2.2.2.2.1, fun _ => ⟨s7.symm, fun k k1 k2 => by show (if k = i then zb v else M 41 k) = (if 60 + k = 60 + i then zb v else M 85 (60 + k)); by_cases e : k = i; rw [if_pos e, if_pos (by omega)]; rw [if_neg e, if_neg (by omega)]; exact s8 k k1 k2, (fun hq k k1 k2 => by show -128 ≤ (if k = i then zb v else M 41 k) ∧ (if k = i then zb v else M 41 k) ≤ 127; split <;> first | (have := zb_r v; omega) | exact s6.2.2 hq k k1 k2)⟩⟩) hS), RelT_k hk (by repeat' constructor) (fun p => by repeat' constructor) hTp, RelX_k hk (by repeat' constructor) (fun p => by repeat' constructor) hX, RelW_k hk ⟨rfl, rfl⟩ trivial hW⟩
theorem st_put_121 {X : Nat × (Nat → Int32)} {d : Nat} {J M : zA} {R : zR} {i v : Int} (hr : Rel X J M R) (hi : -2147483648 ≤ i ∧ i < 2147483648) (hv : -9223372036854775808 ≤ v ∧ v < 9223372036854775808) (hh : J 40 0 = 2) (hso : J 40 2 = 1) : zW X (d + 20) 138 0 (gEn 138 [(.ref 0), (zi 1), (zi i), (zl v)]) [] J M R (stP X (d + 20) 252 [(zi 1), (zi i), (zl v)]) := by
  have hr0 := hr
  obtain ⟨hR, hG, hY, hD, hP, hC, hAc, hS, hTp, hX, hW⟩ := hr0
  have hRr : zRoR R := zRoR_of hR
  have e83 : J 83 1 = -2 - J 40 2 := (hS 1 (by decide) (by decide)).1.symm.trans (cH_2 hh)
  have s3 : 0 ≤ J 40 2 ∧ J 40 2 ≤ 4 := (hS 1 (by decide) (by decide)).2.2.1
  have s4 : 0 ≤ J 40 3 ∧ J 40 3 ≤ 60 := (hS 1 (by decide) (by decide)).2.2.2.1
  have s6 := (hS 1 (by decide) (by decide)).2.2.2.2.2 hh
  have s7 : J 84 1 = J 40 3 := s6.1.symm
  have s8 : ∀ i, 0 ≤ i → i < J 40 3 → M 41 i = M 85 (60 + i) := s6.2.1
  show zW _ _ _ _ [some (.ref 0), some (zi 1), some (zi i), some (zl v), none, none] _ _ _ _ _
  refine z_iload rfl rfl ?_
  refine z_callSi (As := [_]) (le := [some _]) rfl rfl (Nat.le_of_ble_eq_true rfl) (Nat.le_of_ble_eq_true rfl) rfl ?_
  refine z_iload rfl rfl ?_
  refine z_if_ltF rfl (by decide) (by decide) ?_
  refine z_iload rfl rfl ?_
  refine z_pushI (z := 6) rfl rfl ?_
  refine z_icmp_geF rfl (by decide) (by decide) (by decide) ?_
  refine z_pushI (z := 1) rfl rfl ?_
  refine z_goto rfl ?_
  refine z_bret rfl rfl (by decide) ?_
  show zW _ _ _ _ _ _ _ _ _ _
  refine z_if_neT rfl (by decide) (by decide) ?_
  refine z_aload rfl rfl ?_
  refine z_getR (r := 37) rfl rfl (hR _ rm_0_11) ?_
  refine z_iload rfl rfl ?_
  refine z_aald (r := 40) rfl rfl (by decide) (by decide) (hR _ rm_37_1) ?_
  refine z_iload rfl rfl ?_
  refine z_callVi (As := [_]) (le := [some _, some _]) rfl rfl rfl (Nat.le_of_ble_eq_true rfl) (Nat.le_of_ble_eq_true rfl) rfl ?_
  refine z_aload rfl rfl ?_
  refine z_getI (v := 2) rfl rfl (hh) ?_
  refine z_if_neT rfl (by decide) (by decide) ?_
  refine z_aload rfl rfl ?_
  refine z_getI (v := 2) rfl rfl (hh) ?_
  refine z_pushI (z := 2) rfl rfl ?_
  refine z_icmp_eqT rfl (by decide) (by decide) (by decide) ?_
  refine z_iload rfl rfl ?_
  refine z_if_lt rfl (by omega) (fun h1 => ?_) (fun h1 => ?_)
  · refine z_pushI (z := (-13)) rfl rfl ?_
    refine z_iret rfl rfl ?_
    show zW _ _ _ _ _ _ _ _ _ _
    refine z_istore rfl rfl ?_
    refine z_iload rfl rfl ?_
    refine z_if_geF rfl (by decide) (by decide) ?_
    refine z_iload rfl rfl ?_
    refine z_iret rfl rfl ?_
    refine ⟨_, rfl, ?_⟩
    show zW _ _ _ _ [some (.ref 50), some (zi 1), some (zi i), some (zl v), none, none, none] _ _ _ _ _
    refine z_aload rfl rfl ?_
    refine z_iload rfl rfl ?_
    refine z_iload rfl rfl ?_
    refine z_callVi (As := [_, _]) (le := [some _, some _, some _]) rfl rfl rfl (Nat.le_of_ble_eq_true rfl) (Nat.le_of_ble_eq_true rfl) rfl ?_
    refine z_iload rfl rfl ?_
    refine z_callSi (As := [_]) (le := [some _]) rfl rfl (Nat.le_of_ble_eq_true rfl) (Nat.le_of_ble_eq_true rfl) rfl ?_
    refine z_iload rfl rfl ?_
    refine z_pushI (z := 0) rfl rfl ?_
    refine z_pushI (z := 5) rfl rfl ?_
    refine z_callSi (As := [_, _, _]) (le := [some _, some _, some _]) rfl rfl (Nat.le_of_ble_eq_true rfl) (Nat.le_of_ble_eq_true rfl) rfl ?_
    refine z_iload rfl rfl ?_
    refine z_iload rfl rfl ?_
    refine z_icmp_ltF rfl (by decide) (by decide) (by decide) ?_
    refine z_iload rfl rfl ?_
    refine z_iload rfl rfl ?_
    refine z_icmp_gtF rfl (by decide) (by decide) (by decide) ?_
    refine z_pushI (z := 1) rfl rfl ?_
    refine z_goto rfl ?_
    refine z_bret rfl rfl (by decide) ?_
    show zW _ _ _ _ _ _ _ _ _ _
    refine z_bret rfl rfl (by decide) ?_
    show zW _ _ _ _ _ _ _ _ _ _
    refine z_if_neT rfl (by decide) (by decide) ?_
    refine z_aload rfl rfl ?_
    refine z_getR (r := 83) rfl rfl (hRr _ rm_50_58 (by decide)) ?_
    refine z_iload rfl rfl ?_
    refine z_iald (v := (-3)) rfl rfl (by decide) (by decide) ((e83.trans (by rw [hso]; rfl))) ?_
    refine z_pushI (z := (-1)) rfl rfl ?_
    refine z_icmp_neT rfl (by decide) (by decide) (by decide) ?_
    refine z_aload rfl rfl ?_
    refine z_getR (r := 83) rfl rfl (hRr _ rm_50_58 (by decide)) ?_
    refine z_iload rfl rfl ?_
    refine z_iald (v := (-3)) rfl rfl (by decide) (by decide) ((e83.trans (by rw [hso]; rfl))) ?_
    refine z_if_ltT rfl (by decide) (by decide) ?_
    refine z_iload rfl rfl ?_
    refine z_pushI (z := 0) rfl rfl ?_
    refine z_aload rfl rfl ?_
    refine z_getR (r := 84) rfl rfl (hRr _ rm_50_59 (by decide)) ?_
    refine z_iload rfl rfl ?_
    refine z_iald (v := J 40 3) rfl rfl (by decide) (by decide) (s7) ?_
    refine z_pushI (z := 1) rfl rfl ?_
    refine z_isub (e := (J 40 3) - 1) rfl rfl ?_
    refine z_callSi (As := [_, _, _]) (le := [some _, some _, some _]) rfl rfl (Nat.le_of_ble_eq_true rfl) (Nat.le_of_ble_eq_true rfl) rfl ?_
    refine z_iload rfl rfl ?_
    refine z_iload rfl rfl ?_
    refine z_icmp_ltT rfl (by omega) (by decide) (by omega) ?_
    refine z_pushI (z := 0) rfl rfl ?_
    refine z_bret rfl rfl (by decide) ?_
    show zW _ _ _ _ _ _ _ _ _ _
    refine z_if_eqT rfl (by decide) (by decide) ?_
    refine z_pushI (z := (-13)) rfl rfl ?_
    refine z_iret rfl rfl ?_
    show zW _ _ _ _ _ _ _ _ _ _
    refine z_istore rfl rfl ?_
    refine z_iload rfl rfl ?_
    refine z_if_geF rfl (by decide) (by decide) ?_
    refine z_iload rfl rfl ?_
    refine z_iret rfl rfl ?_
    refine ⟨?_, ?_⟩
    · first | rfl | exact congrArg (fun v => some (zi v)) (by omega) | (exfalso; omega)
    · exact hr
  · refine z_iload rfl rfl ?_
    refine z_aload rfl rfl ?_
    refine z_getI (v := J 40 3) rfl rfl (rfl) ?_
    refine z_icmp_ge rfl (by omega) (by omega) (fun h2 => ?_) (fun h2 => ?_)
    · refine z_pushI (z := (-13)) rfl rfl ?_
      refine z_iret rfl rfl ?_
      show zW _ _ _ _ _ _ _ _ _ _
      refine z_istore rfl rfl ?_
      refine z_iload rfl rfl ?_
      refine z_if_geF rfl (by decide) (by decide) ?_
      refine z_iload rfl rfl ?_
      refine z_iret rfl rfl ?_
      refine ⟨_, rfl, ?_⟩
      show zW _ _ _ _ [some (.ref 50), some (zi 1), some (zi i), some (zl v), none, none, none] _ _ _ _ _
      refine z_aload rfl rfl ?_
      refine z_iload rfl rfl ?_
      refine z_iload rfl rfl ?_
      refine z_callVi (As := [_, _]) (le := [some _, some _, some _]) rfl rfl rfl (Nat.le_of_ble_eq_true rfl) (Nat.le_of_ble_eq_true rfl) rfl ?_
      refine z_iload rfl rfl ?_
      refine z_callSi (As := [_]) (le := [some _]) rfl rfl (Nat.le_of_ble_eq_true rfl) (Nat.le_of_ble_eq_true rfl) rfl ?_
      refine z_iload rfl rfl ?_
      refine z_pushI (z := 0) rfl rfl ?_
      refine z_pushI (z := 5) rfl rfl ?_
      refine z_callSi (As := [_, _, _]) (le := [some _, some _, some _]) rfl rfl (Nat.le_of_ble_eq_true rfl) (Nat.le_of_ble_eq_true rfl) rfl ?_
      refine z_iload rfl rfl ?_
      refine z_iload rfl rfl ?_
      refine z_icmp_ltF rfl (by decide) (by decide) (by decide) ?_
      refine z_iload rfl rfl ?_
      refine z_iload rfl rfl ?_
      refine z_icmp_gtF rfl (by decide) (by decide) (by decide) ?_
      refine z_pushI (z := 1) rfl rfl ?_
      refine z_goto rfl ?_
      refine z_bret rfl rfl (by decide) ?_
      show zW _ _ _ _ _ _ _ _ _ _
      refine z_bret rfl rfl (by decide) ?_
      show zW _ _ _ _ _ _ _ _ _ _
      refine z_if_neT rfl (by decide) (by decide) ?_
      refine z_aload rfl rfl ?_
      refine z_getR (r := 83) rfl rfl (hRr _ rm_50_58 (by decide)) ?_
      refine z_iload rfl rfl ?_
      refine z_iald (v := (-3)) rfl rfl (by decide) (by decide) ((e83.trans (by rw [hso]; rfl))) ?_
      refine z_pushI (z := (-1)) rfl rfl ?_
      refine z_icmp_neT rfl (by decide) (by decide) (by decide) ?_
      refine z_aload rfl rfl ?_
      refine z_getR (r := 83) rfl rfl (hRr _ rm_50_58 (by decide)) ?_
      refine z_iload rfl rfl ?_
      refine z_iald (v := (-3)) rfl rfl (by decide) (by decide) ((e83.trans (by rw [hso]; rfl))) ?_
      refine z_if_ltT rfl (by decide) (by decide) ?_
      refine z_iload rfl rfl ?_
      refine z_pushI (z := 0) rfl rfl ?_
      refine z_aload rfl rfl ?_
      refine z_getR (r := 84) rfl rfl (hRr _ rm_50_59 (by decide)) ?_
      refine z_iload rfl rfl ?_
      refine z_iald (v := J 40 3) rfl rfl (by decide) (by decide) (s7) ?_
      refine z_pushI (z := 1) rfl rfl ?_
      refine z_isub (e := (J 40 3) - 1) rfl rfl ?_
      refine z_callSi (As := [_, _, _]) (le := [some _, some _, some _]) rfl rfl (Nat.le_of_ble_eq_true rfl) (Nat.le_of_ble_eq_true rfl) rfl ?_
      refine z_iload rfl rfl ?_
      refine z_iload rfl rfl ?_
      refine z_icmp_ltF rfl (by omega) (by decide) (by omega) ?_
      refine z_iload rfl rfl ?_
      refine z_iload rfl rfl ?_
      refine z_icmp_gtT rfl (by omega) (by omega) (by omega) ?_
      refine z_pushI (z := 0) rfl rfl ?_
      refine z_bret rfl rfl (by decide) ?_
      show zW _ _ _ _ _ _ _ _ _ _
      refine z_if_eqT rfl (by decide) (by decide) ?_
      refine z_pushI (z := (-13)) rfl rfl ?_
      refine z_iret rfl rfl ?_
      show zW _ _ _ _ _ _ _ _ _ _
      refine z_istore rfl rfl ?_
      refine z_iload rfl rfl ?_
      refine z_if_geF rfl (by decide) (by decide) ?_
      refine z_iload rfl rfl ?_
      refine z_iret rfl rfl ?_
      refine ⟨?_, ?_⟩
      · first | rfl | exact congrArg (fun v => some (zi v)) (by omega) | (exfalso; omega)
      · exact hr
    · refine z_pushI (z := 0) rfl rfl ?_
      refine z_goto rfl ?_
      refine z_iret rfl rfl ?_
      show zW _ _ _ _ _ _ _ _ _ _
      refine z_istore rfl rfl ?_
      refine z_iload rfl rfl ?_
      refine z_if_geT rfl (by decide) (by decide) ?_
      refine z_aload rfl rfl ?_
      refine z_getR (r := 37) rfl rfl (hR _ rm_0_11) ?_
      refine z_iload rfl rfl ?_
      refine z_aald (r := 40) rfl rfl (by decide) (by decide) (hR _ rm_37_1) ?_
      refine z_iload rfl rfl ?_
      refine z_lload rfl rfl ?_
      refine z_callVi (As := [_, _]) (le := [some _, some _, some _, none]) rfl rfl rfl (Nat.le_of_ble_eq_true rfl) (Nat.le_of_ble_eq_true rfl) rfl ?_
      refine z_iload rfl rfl ?_
      refine z_if_ltF rfl (by omega) (by omega) ?_
      refine z_iload rfl rfl ?_
      refine z_aload rfl rfl ?_
      refine z_getI (v := J 40 3) rfl rfl (rfl) ?_
      refine z_icmp_geF rfl (by omega) (by omega) (by omega) ?_
      refine z_aload rfl rfl ?_
      refine z_getR (r := 41) rfl rfl (hR _ rm_40_4) ?_
      refine z_iload rfl rfl ?_
      refine z_aload rfl rfl ?_
      refine z_lload rfl rfl ?_
      refine z_callVi (As := [_]) (le := [some _, some _, none]) rfl rfl rfl (Nat.le_of_ble_eq_true rfl) (Nat.le_of_ble_eq_true rfl) rfl ?_
      refine z_aload rfl rfl ?_
      refine z_getI (v := 1) rfl rfl (hso) ?_
      refine z_swI (tg := 45) rfl (by decide) (T := [((0 : Int), 40), ((1 : Int), 45), ((2 : Int), 50), ((3 : Int), 66), ((4 : Int), 54)]) rfl (by decide) ?_
      refine z_lload rfl rfl ?_
      refine z_l2i rfl ?_
      refine z_i2s (e := zh v) rfl rfl ?_
      have q3 := zh_r v
      refine z_i2l rfl (by omega) ?_
      refine z_lret rfl rfl ?_
      show zW _ _ _ _ _ _ _ _ _ _
      refine z_last (e := zh v) rfl rfl (by decide) (by omega) rfl ?_
      refine z_vret rfl rfl ?_
      show zW _ _ _ _ _ _ _ _ _ _
      refine z_pushI (z := 1) rfl rfl ?_
      refine z_iret rfl rfl ?_
      refine ⟨_, rfl, ?_⟩
      show zW _ _ _ _ [some (.ref 50), some (zi 1), some (zi i), some (zl v), none, none, none] _ _ _ _ _
      refine z_aload rfl rfl ?_
      refine z_iload rfl rfl ?_
      refine z_iload rfl rfl ?_
      refine z_callVi (As := [_, _]) (le := [some _, some _, some _]) rfl rfl rfl (Nat.le_of_ble_eq_true rfl) (Nat.le_of_ble_eq_true rfl) rfl ?_
      refine z_iload rfl rfl ?_
      refine z_callSi (As := [_]) (le := [some _]) rfl rfl (Nat.le_of_ble_eq_true rfl) (Nat.le_of_ble_eq_true rfl) rfl ?_
      refine z_iload rfl rfl ?_
      refine z_pushI (z := 0) rfl rfl ?_
      refine z_pushI (z := 5) rfl rfl ?_
      refine z_callSi (As := [_, _, _]) (le := [some _, some _, some _]) rfl rfl (Nat.le_of_ble_eq_true rfl) (Nat.le_of_ble_eq_true rfl) rfl ?_
      refine z_iload rfl rfl ?_
      refine z_iload rfl rfl ?_
      refine z_icmp_ltF rfl (by decide) (by decide) (by decide) ?_
      refine z_iload rfl rfl ?_
      refine z_iload rfl rfl ?_
      refine z_icmp_gtF rfl (by decide) (by decide) (by decide) ?_
      refine z_pushI (z := 1) rfl rfl ?_
      refine z_goto rfl ?_
      refine z_bret rfl rfl (by decide) ?_
      show zW _ _ _ _ _ _ _ _ _ _
      refine z_bret rfl rfl (by decide) ?_
      show zW _ _ _ _ _ _ _ _ _ _
      refine z_if_neT rfl (by decide) (by decide) ?_
      refine z_aload rfl rfl ?_
      refine z_getR (r := 83) rfl rfl (hRr _ rm_50_58 (by decide)) ?_
      refine z_iload rfl rfl ?_
      refine z_iald (v := (-3)) rfl rfl (by decide) (by decide) ((e83.trans (by rw [hso]; rfl))) ?_
      refine z_pushI (z := (-1)) rfl rfl ?_
      refine z_icmp_neT rfl (by decide) (by decide) (by decide) ?_
      refine z_aload rfl rfl ?_
      refine z_getR (r := 83) rfl rfl (hRr _ rm_50_58 (by decide)) ?_
      refine z_iload rfl rfl ?_
      refine z_iald (v := (-3)) rfl rfl (by decide) (by decide) ((e83.trans (by rw [hso]; rfl))) ?_
      refine z_if_ltT rfl (by decide) (by decide) ?_
      refine z_iload rfl rfl ?_
      refine z_pushI (z := 0) rfl rfl ?_
      refine z_aload rfl rfl ?_
      refine z_getR (r := 84) rfl rfl (hRr _ rm_50_59 (by decide)) ?_
      refine z_iload rfl rfl ?_
      refine z_iald (v := J 40 3) rfl rfl (by decide) (by decide) (s7) ?_
      refine z_pushI (z := 1) rfl rfl ?_
      refine z_isub (e := (J 40 3) - 1) rfl rfl ?_
      refine z_callSi (As := [_, _, _]) (le := [some _, some _, some _]) rfl rfl (Nat.le_of_ble_eq_true rfl) (Nat.le_of_ble_eq_true rfl) rfl ?_
      refine z_iload rfl rfl ?_
      refine z_iload rfl rfl ?_
      refine z_icmp_ltF rfl (by omega) (by decide) (by omega) ?_
      refine z_iload rfl rfl ?_
      refine z_iload rfl rfl ?_
      refine z_icmp_gtF rfl (by omega) (by omega) (by omega) ?_
      refine z_pushI (z := 1) rfl rfl ?_
      refine z_goto rfl ?_
      refine z_bret rfl rfl (by decide) ?_
      show zW _ _ _ _ _ _ _ _ _ _
      refine z_if_eqF rfl (by decide) (by decide) ?_
      refine z_pushI (z := 0) rfl rfl ?_
      refine z_goto rfl ?_
      refine z_iret rfl rfl ?_
      show zW _ _ _ _ _ _ _ _ _ _
      refine z_istore rfl rfl ?_
      refine z_iload rfl rfl ?_
      refine z_if_geT rfl (by decide) (by decide) ?_
      refine z_pushI (z := (-2)) rfl rfl ?_
      refine z_aload rfl rfl ?_
      refine z_getR (r := 83) rfl rfl (hRr _ rm_50_58 (by decide)) ?_
      refine z_iload rfl rfl ?_
      refine z_iald (v := (-3)) rfl rfl (by decide) (by decide) ((e83.trans (by rw [hso]; rfl))) ?_
      refine z_isub (e := 1) rfl rfl ?_
      refine z_istore rfl rfl ?_
      refine z_aload rfl rfl ?_
      refine z_getR (r := 85) rfl rfl (hRr _ rm_50_60 (by decide)) ?_
      refine z_pushI (z := 60) rfl rfl ?_
      refine z_iload rfl rfl ?_
      refine z_imul (e := 60) rfl rfl ?_
      refine z_iload rfl rfl ?_
      refine z_iadd (e := 60 + i) rfl rfl ?_
      refine z_iload rfl rfl ?_
      refine z_if_neT rfl (by decide) (by decide) ?_
      refine z_iload rfl rfl ?_
      refine z_pushI (z := 1) rfl rfl ?_
      refine z_icmp_neF rfl (by decide) (by decide) (by decide) ?_
      refine z_lload rfl rfl ?_
      refine z_l2i rfl ?_
      refine z_i2s (e := zh v) rfl rfl ?_
      have q4 := zh_r v
      refine z_i2l rfl (by omega) ?_
      refine z_goto rfl ?_
      refine z_last (e := zh v) rfl rfl (by decide) (by omega) rfl ?_
      refine z_pushI (z := 1) rfl rfl ?_
      refine z_iret rfl rfl ?_
      refine ⟨?_, ?_⟩
      · first | rfl | exact congrArg (fun v => some (zi v)) (by omega) | (exfalso; omega)
      · have hk := (zK_r (k := (kL [] [])) (A := J))
        have hkm := (zK_x (a := 85) (x := 60 + i) (v := zh v) (zK_x (a := 41) (x := i) (v := zh v) (zK_r (k := (kL [41, 85] [])) (A := M)) rfl) rfl)
        exact ⟨hR, hG, RelY_k hk (by repeat' constructor) (fun p => by repeat' constructor) hY, RelD_k hk (by repeat' constructor) (fun p => by repeat' constructor) hD, RelP_k hk (by repeat' constructor) (fun p => by repeat' constructor) hP, RelC_k hk (by repeat' constructor) (fun p => by repeat' constructor) hC, RelA_k hk (by repeat' constructor) (fun p => by repeat' constructor) hAc, (RelS_one (J := J) (M := M) (c := 1) (fun t t1 t2 te => by have q : t = 0 ∨ t = 1 ∨ t = 2 ∨ t = 3 ∨ t = 4 ∨ t = 5 := (by omega); rcases q with rfl | rfl | rfl | rfl | rfl | rfl <;> first | exact absurd rfl te | exact ⟨fun j => rfl, rfl, rfl⟩) (fun t t1 t2 te => by have q : t = 0 ∨ t = 1 ∨ t = 2 ∨ t = 3 ∨ t = 4 ∨ t = 5 := (by omega); rcases q with rfl | rfl | rfl | rfl | rfl | rfl <;> first | exact absurd rfl te | exact ⟨fun j => rfl, fun j j1 j2 => (zU_x (by omega)).trans (zU_n (by decide))⟩) rfl (show RelS1 _ _ _ from ⟨(hS 1 (by decide) (by decide)).1, (hS 1 (by decide) (by decide)).2.1, s3, s4, (hS 1 (by decide) (by decide)).2.2.2.2.1, fun _ => ⟨s7.symm, fun k k1 k2 => by show (if k = i then zh v else M 41 k) = (if 60 + k = 60 + i then zh v else M 85 (60 + k)); by_cases e : k = i; rw [if_pos e, if_pos (by omega)]; rw [if_neg e, if_neg (by omega)]; exact s8 k k1 k2, (fun hq => absurd (Eq.trans (Eq.symm hq) hso) (by decide))⟩⟩) hS), RelT_k hk (by repeat' constructor) (fun p => by repeat' constructor) hTp, RelX_k hk (by repeat' constructor) (fun p => by repeat' constructor) hX, RelW_k hk ⟨rfl, rfl⟩ trivial hW⟩
theorem st_put_122 {X : Nat × (Nat → Int32)} {d : Nat} {J M : zA} {R : zR} {i v : Int} (hr : Rel X J M R) (hi : -2147483648 ≤ i ∧ i < 2147483648) (hv : -9223372036854775808 ≤ v ∧ v < 9223372036854775808) (hh : J 40 0 = 2) (hso : J 40 2 = 2) : zW X (d + 20) 138 0 (gEn 138 [(.ref 0), (zi 1), (zi i), (zl v)]) [] J M R (stP X (d + 20) 252 [(zi 1), (zi i), (zl v)]) := by
  have hr0 := hr
  obtain ⟨hR, hG, hY, hD, hP, hC, hAc, hS, hTp, hX, hW⟩ := hr0
  have hRr : zRoR R := zRoR_of hR
  have e83 : J 83 1 = -2 - J 40 2 := (hS 1 (by decide) (by decide)).1.symm.trans (cH_2 hh)
  have s3 : 0 ≤ J 40 2 ∧ J 40 2 ≤ 4 := (hS 1 (by decide) (by decide)).2.2.1
  have s4 : 0 ≤ J 40 3 ∧ J 40 3 ≤ 60 := (hS 1 (by decide) (by decide)).2.2.2.1
  have s6 := (hS 1 (by decide) (by decide)).2.2.2.2.2 hh
  have s7 : J 84 1 = J 40 3 := s6.1.symm
  have s8 : ∀ i, 0 ≤ i → i < J 40 3 → M 41 i = M 85 (60 + i) := s6.2.1
  show zW _ _ _ _ [some (.ref 0), some (zi 1), some (zi i), some (zl v), none, none] _ _ _ _ _
  refine z_iload rfl rfl ?_
  refine z_callSi (As := [_]) (le := [some _]) rfl rfl (Nat.le_of_ble_eq_true rfl) (Nat.le_of_ble_eq_true rfl) rfl ?_
  refine z_iload rfl rfl ?_
  refine z_if_ltF rfl (by decide) (by decide) ?_
  refine z_iload rfl rfl ?_
  refine z_pushI (z := 6) rfl rfl ?_
  refine z_icmp_geF rfl (by decide) (by decide) (by decide) ?_
  refine z_pushI (z := 1) rfl rfl ?_
  refine z_goto rfl ?_
  refine z_bret rfl rfl (by decide) ?_
  show zW _ _ _ _ _ _ _ _ _ _
  refine z_if_neT rfl (by decide) (by decide) ?_
  refine z_aload rfl rfl ?_
  refine z_getR (r := 37) rfl rfl (hR _ rm_0_11) ?_
  refine z_iload rfl rfl ?_
  refine z_aald (r := 40) rfl rfl (by decide) (by decide) (hR _ rm_37_1) ?_
  refine z_iload rfl rfl ?_
  refine z_callVi (As := [_]) (le := [some _, some _]) rfl rfl rfl (Nat.le_of_ble_eq_true rfl) (Nat.le_of_ble_eq_true rfl) rfl ?_
  refine z_aload rfl rfl ?_
  refine z_getI (v := 2) rfl rfl (hh) ?_
  refine z_if_neT rfl (by decide) (by decide) ?_
  refine z_aload rfl rfl ?_
  refine z_getI (v := 2) rfl rfl (hh) ?_
  refine z_pushI (z := 2) rfl rfl ?_
  refine z_icmp_eqT rfl (by decide) (by decide) (by decide) ?_
  refine z_iload rfl rfl ?_
  refine z_if_lt rfl (by omega) (fun h1 => ?_) (fun h1 => ?_)
  · refine z_pushI (z := (-13)) rfl rfl ?_
    refine z_iret rfl rfl ?_
    show zW _ _ _ _ _ _ _ _ _ _
    refine z_istore rfl rfl ?_
    refine z_iload rfl rfl ?_
    refine z_if_geF rfl (by decide) (by decide) ?_
    refine z_iload rfl rfl ?_
    refine z_iret rfl rfl ?_
    refine ⟨_, rfl, ?_⟩
    show zW _ _ _ _ [some (.ref 50), some (zi 1), some (zi i), some (zl v), none, none, none] _ _ _ _ _
    refine z_aload rfl rfl ?_
    refine z_iload rfl rfl ?_
    refine z_iload rfl rfl ?_
    refine z_callVi (As := [_, _]) (le := [some _, some _, some _]) rfl rfl rfl (Nat.le_of_ble_eq_true rfl) (Nat.le_of_ble_eq_true rfl) rfl ?_
    refine z_iload rfl rfl ?_
    refine z_callSi (As := [_]) (le := [some _]) rfl rfl (Nat.le_of_ble_eq_true rfl) (Nat.le_of_ble_eq_true rfl) rfl ?_
    refine z_iload rfl rfl ?_
    refine z_pushI (z := 0) rfl rfl ?_
    refine z_pushI (z := 5) rfl rfl ?_
    refine z_callSi (As := [_, _, _]) (le := [some _, some _, some _]) rfl rfl (Nat.le_of_ble_eq_true rfl) (Nat.le_of_ble_eq_true rfl) rfl ?_
    refine z_iload rfl rfl ?_
    refine z_iload rfl rfl ?_
    refine z_icmp_ltF rfl (by decide) (by decide) (by decide) ?_
    refine z_iload rfl rfl ?_
    refine z_iload rfl rfl ?_
    refine z_icmp_gtF rfl (by decide) (by decide) (by decide) ?_
    refine z_pushI (z := 1) rfl rfl ?_
    refine z_goto rfl ?_
    refine z_bret rfl rfl (by decide) ?_
    show zW _ _ _ _ _ _ _ _ _ _
    refine z_bret rfl rfl (by decide) ?_
    show zW _ _ _ _ _ _ _ _ _ _
    refine z_if_neT rfl (by decide) (by decide) ?_
    refine z_aload rfl rfl ?_
    refine z_getR (r := 83) rfl rfl (hRr _ rm_50_58 (by decide)) ?_
    refine z_iload rfl rfl ?_
    refine z_iald (v := (-4)) rfl rfl (by decide) (by decide) ((e83.trans (by rw [hso]; rfl))) ?_
    refine z_pushI (z := (-1)) rfl rfl ?_
    refine z_icmp_neT rfl (by decide) (by decide) (by decide) ?_
    refine z_aload rfl rfl ?_
    refine z_getR (r := 83) rfl rfl (hRr _ rm_50_58 (by decide)) ?_
    refine z_iload rfl rfl ?_
    refine z_iald (v := (-4)) rfl rfl (by decide) (by decide) ((e83.trans (by rw [hso]; rfl))) ?_
    refine z_if_ltT rfl (by decide) (by decide) ?_
    refine z_iload rfl rfl ?_
    refine z_pushI (z := 0) rfl rfl ?_
    refine z_aload rfl rfl ?_
    refine z_getR (r := 84) rfl rfl (hRr _ rm_50_59 (by decide)) ?_
    refine z_iload rfl rfl ?_
    refine z_iald (v := J 40 3) rfl rfl (by decide) (by decide) (s7) ?_
    refine z_pushI (z := 1) rfl rfl ?_
    refine z_isub (e := (J 40 3) - 1) rfl rfl ?_
    refine z_callSi (As := [_, _, _]) (le := [some _, some _, some _]) rfl rfl (Nat.le_of_ble_eq_true rfl) (Nat.le_of_ble_eq_true rfl) rfl ?_
    refine z_iload rfl rfl ?_
    refine z_iload rfl rfl ?_
    refine z_icmp_ltT rfl (by omega) (by decide) (by omega) ?_
    refine z_pushI (z := 0) rfl rfl ?_
    refine z_bret rfl rfl (by decide) ?_
    show zW _ _ _ _ _ _ _ _ _ _
    refine z_if_eqT rfl (by decide) (by decide) ?_
    refine z_pushI (z := (-13)) rfl rfl ?_
    refine z_iret rfl rfl ?_
    show zW _ _ _ _ _ _ _ _ _ _
    refine z_istore rfl rfl ?_
    refine z_iload rfl rfl ?_
    refine z_if_geF rfl (by decide) (by decide) ?_
    refine z_iload rfl rfl ?_
    refine z_iret rfl rfl ?_
    refine ⟨?_, ?_⟩
    · first | rfl | exact congrArg (fun v => some (zi v)) (by omega) | (exfalso; omega)
    · exact hr
  · refine z_iload rfl rfl ?_
    refine z_aload rfl rfl ?_
    refine z_getI (v := J 40 3) rfl rfl (rfl) ?_
    refine z_icmp_ge rfl (by omega) (by omega) (fun h2 => ?_) (fun h2 => ?_)
    · refine z_pushI (z := (-13)) rfl rfl ?_
      refine z_iret rfl rfl ?_
      show zW _ _ _ _ _ _ _ _ _ _
      refine z_istore rfl rfl ?_
      refine z_iload rfl rfl ?_
      refine z_if_geF rfl (by decide) (by decide) ?_
      refine z_iload rfl rfl ?_
      refine z_iret rfl rfl ?_
      refine ⟨_, rfl, ?_⟩
      show zW _ _ _ _ [some (.ref 50), some (zi 1), some (zi i), some (zl v), none, none, none] _ _ _ _ _
      refine z_aload rfl rfl ?_
      refine z_iload rfl rfl ?_
      refine z_iload rfl rfl ?_
      refine z_callVi (As := [_, _]) (le := [some _, some _, some _]) rfl rfl rfl (Nat.le_of_ble_eq_true rfl) (Nat.le_of_ble_eq_true rfl) rfl ?_
      refine z_iload rfl rfl ?_
      refine z_callSi (As := [_]) (le := [some _]) rfl rfl (Nat.le_of_ble_eq_true rfl) (Nat.le_of_ble_eq_true rfl) rfl ?_
      refine z_iload rfl rfl ?_
      refine z_pushI (z := 0) rfl rfl ?_
      refine z_pushI (z := 5) rfl rfl ?_
      refine z_callSi (As := [_, _, _]) (le := [some _, some _, some _]) rfl rfl (Nat.le_of_ble_eq_true rfl) (Nat.le_of_ble_eq_true rfl) rfl ?_
      refine z_iload rfl rfl ?_
      refine z_iload rfl rfl ?_
      refine z_icmp_ltF rfl (by decide) (by decide) (by decide) ?_
      refine z_iload rfl rfl ?_
      refine z_iload rfl rfl ?_
      refine z_icmp_gtF rfl (by decide) (by decide) (by decide) ?_
      refine z_pushI (z := 1) rfl rfl ?_
      refine z_goto rfl ?_
      refine z_bret rfl rfl (by decide) ?_
      show zW _ _ _ _ _ _ _ _ _ _
      refine z_bret rfl rfl (by decide) ?_
      show zW _ _ _ _ _ _ _ _ _ _
      refine z_if_neT rfl (by decide) (by decide) ?_
      refine z_aload rfl rfl ?_
      refine z_getR (r := 83) rfl rfl (hRr _ rm_50_58 (by decide)) ?_
      refine z_iload rfl rfl ?_
      refine z_iald (v := (-4)) rfl rfl (by decide) (by decide) ((e83.trans (by rw [hso]; rfl))) ?_
      refine z_pushI (z := (-1)) rfl rfl ?_
      refine z_icmp_neT rfl (by decide) (by decide) (by decide) ?_
      refine z_aload rfl rfl ?_
      refine z_getR (r := 83) rfl rfl (hRr _ rm_50_58 (by decide)) ?_
      refine z_iload rfl rfl ?_
      refine z_iald (v := (-4)) rfl rfl (by decide) (by decide) ((e83.trans (by rw [hso]; rfl))) ?_
      refine z_if_ltT rfl (by decide) (by decide) ?_
      refine z_iload rfl rfl ?_
      refine z_pushI (z := 0) rfl rfl ?_
      refine z_aload rfl rfl ?_
      refine z_getR (r := 84) rfl rfl (hRr _ rm_50_59 (by decide)) ?_
      refine z_iload rfl rfl ?_
      refine z_iald (v := J 40 3) rfl rfl (by decide) (by decide) (s7) ?_
      refine z_pushI (z := 1) rfl rfl ?_
      refine z_isub (e := (J 40 3) - 1) rfl rfl ?_
      refine z_callSi (As := [_, _, _]) (le := [some _, some _, some _]) rfl rfl (Nat.le_of_ble_eq_true rfl) (Nat.le_of_ble_eq_true rfl) rfl ?_
      refine z_iload rfl rfl ?_
      refine z_iload rfl rfl ?_
      refine z_icmp_ltF rfl (by omega) (by decide) (by omega) ?_
      refine z_iload rfl rfl ?_
      refine z_iload rfl rfl ?_
      refine z_icmp_gtT rfl (by omega) (by omega) (by omega) ?_
      refine z_pushI (z := 0) rfl rfl ?_
      refine z_bret rfl rfl (by decide) ?_
      show zW _ _ _ _ _ _ _ _ _ _
      refine z_if_eqT rfl (by decide) (by decide) ?_
      refine z_pushI (z := (-13)) rfl rfl ?_
      refine z_iret rfl rfl ?_
      show zW _ _ _ _ _ _ _ _ _ _
      refine z_istore rfl rfl ?_
      refine z_iload rfl rfl ?_
      refine z_if_geF rfl (by decide) (by decide) ?_
      refine z_iload rfl rfl ?_
      refine z_iret rfl rfl ?_
      refine ⟨?_, ?_⟩
      · first | rfl | exact congrArg (fun v => some (zi v)) (by omega) | (exfalso; omega)
      · exact hr
    · refine z_pushI (z := 0) rfl rfl ?_
      refine z_goto rfl ?_
      refine z_iret rfl rfl ?_
      show zW _ _ _ _ _ _ _ _ _ _
      refine z_istore rfl rfl ?_
      refine z_iload rfl rfl ?_
      refine z_if_geT rfl (by decide) (by decide) ?_
      refine z_aload rfl rfl ?_
      refine z_getR (r := 37) rfl rfl (hR _ rm_0_11) ?_
      refine z_iload rfl rfl ?_
      refine z_aald (r := 40) rfl rfl (by decide) (by decide) (hR _ rm_37_1) ?_
      refine z_iload rfl rfl ?_
      refine z_lload rfl rfl ?_
      refine z_callVi (As := [_, _]) (le := [some _, some _, some _, none]) rfl rfl rfl (Nat.le_of_ble_eq_true rfl) (Nat.le_of_ble_eq_true rfl) rfl ?_
      refine z_iload rfl rfl ?_
      refine z_if_ltF rfl (by omega) (by omega) ?_
      refine z_iload rfl rfl ?_
      refine z_aload rfl rfl ?_
      refine z_getI (v := J 40 3) rfl rfl (rfl) ?_
      refine z_icmp_geF rfl (by omega) (by omega) (by omega) ?_
      refine z_aload rfl rfl ?_
      refine z_getR (r := 41) rfl rfl (hR _ rm_40_4) ?_
      refine z_iload rfl rfl ?_
      refine z_aload rfl rfl ?_
      refine z_lload rfl rfl ?_
      refine z_callVi (As := [_]) (le := [some _, some _, none]) rfl rfl rfl (Nat.le_of_ble_eq_true rfl) (Nat.le_of_ble_eq_true rfl) rfl ?_
      refine z_aload rfl rfl ?_
      refine z_getI (v := 2) rfl rfl (hso) ?_
      refine z_swI (tg := 50) rfl (by decide) (T := [((0 : Int), 40), ((1 : Int), 45), ((2 : Int), 50), ((3 : Int), 66), ((4 : Int), 54)]) rfl (by decide) ?_
      refine z_lload rfl rfl ?_
      refine z_l2i rfl ?_
      refine z_topn (e := zn v) rfl ?_
      have q3 := zn_r v
      refine z_i2l rfl (by omega) ?_
      refine z_lret rfl rfl ?_
      show zW _ _ _ _ _ _ _ _ _ _
      refine z_last (e := zn v) rfl rfl (by decide) (by omega) rfl ?_
      refine z_vret rfl rfl ?_
      show zW _ _ _ _ _ _ _ _ _ _
      refine z_pushI (z := 1) rfl rfl ?_
      refine z_iret rfl rfl ?_
      refine ⟨_, rfl, ?_⟩
      show zW _ _ _ _ [some (.ref 50), some (zi 1), some (zi i), some (zl v), none, none, none] _ _ _ _ _
      refine z_aload rfl rfl ?_
      refine z_iload rfl rfl ?_
      refine z_iload rfl rfl ?_
      refine z_callVi (As := [_, _]) (le := [some _, some _, some _]) rfl rfl rfl (Nat.le_of_ble_eq_true rfl) (Nat.le_of_ble_eq_true rfl) rfl ?_
      refine z_iload rfl rfl ?_
      refine z_callSi (As := [_]) (le := [some _]) rfl rfl (Nat.le_of_ble_eq_true rfl) (Nat.le_of_ble_eq_true rfl) rfl ?_
      refine z_iload rfl rfl ?_
      refine z_pushI (z := 0) rfl rfl ?_
      refine z_pushI (z := 5) rfl rfl ?_
      refine z_callSi (As := [_, _, _]) (le := [some _, some _, some _]) rfl rfl (Nat.le_of_ble_eq_true rfl) (Nat.le_of_ble_eq_true rfl) rfl ?_
      refine z_iload rfl rfl ?_
      refine z_iload rfl rfl ?_
      refine z_icmp_ltF rfl (by decide) (by decide) (by decide) ?_
      refine z_iload rfl rfl ?_
      refine z_iload rfl rfl ?_
      refine z_icmp_gtF rfl (by decide) (by decide) (by decide) ?_
      refine z_pushI (z := 1) rfl rfl ?_
      refine z_goto rfl ?_
      refine z_bret rfl rfl (by decide) ?_
      show zW _ _ _ _ _ _ _ _ _ _
      refine z_bret rfl rfl (by decide) ?_
      show zW _ _ _ _ _ _ _ _ _ _
      refine z_if_neT rfl (by decide) (by decide) ?_
      refine z_aload rfl rfl ?_
      refine z_getR (r := 83) rfl rfl (hRr _ rm_50_58 (by decide)) ?_
      refine z_iload rfl rfl ?_
      refine z_iald (v := (-4)) rfl rfl (by decide) (by decide) ((e83.trans (by rw [hso]; rfl))) ?_
      refine z_pushI (z := (-1)) rfl rfl ?_
      refine z_icmp_neT rfl (by decide) (by decide) (by decide) ?_
      refine z_aload rfl rfl ?_
      refine z_getR (r := 83) rfl rfl (hRr _ rm_50_58 (by decide)) ?_
      refine z_iload rfl rfl ?_
      refine z_iald (v := (-4)) rfl rfl (by decide) (by decide) ((e83.trans (by rw [hso]; rfl))) ?_
      refine z_if_ltT rfl (by decide) (by decide) ?_
      refine z_iload rfl rfl ?_
      refine z_pushI (z := 0) rfl rfl ?_
      refine z_aload rfl rfl ?_
      refine z_getR (r := 84) rfl rfl (hRr _ rm_50_59 (by decide)) ?_
      refine z_iload rfl rfl ?_
      refine z_iald (v := J 40 3) rfl rfl (by decide) (by decide) (s7) ?_
      refine z_pushI (z := 1) rfl rfl ?_
      refine z_isub (e := (J 40 3) - 1) rfl rfl ?_
      refine z_callSi (As := [_, _, _]) (le := [some _, some _, some _]) rfl rfl (Nat.le_of_ble_eq_true rfl) (Nat.le_of_ble_eq_true rfl) rfl ?_
      refine z_iload rfl rfl ?_
      refine z_iload rfl rfl ?_
      refine z_icmp_ltF rfl (by omega) (by decide) (by omega) ?_
      refine z_iload rfl rfl ?_
      refine z_iload rfl rfl ?_
      refine z_icmp_gtF rfl (by omega) (by omega) (by omega) ?_
      refine z_pushI (z := 1) rfl rfl ?_
      refine z_goto rfl ?_
      refine z_bret rfl rfl (by decide) ?_
      show zW _ _ _ _ _ _ _ _ _ _
      refine z_if_eqF rfl (by decide) (by decide) ?_
      refine z_pushI (z := 0) rfl rfl ?_
      refine z_goto rfl ?_
      refine z_iret rfl rfl ?_
      show zW _ _ _ _ _ _ _ _ _ _
      refine z_istore rfl rfl ?_
      refine z_iload rfl rfl ?_
      refine z_if_geT rfl (by decide) (by decide) ?_
      refine z_pushI (z := (-2)) rfl rfl ?_
      refine z_aload rfl rfl ?_
      refine z_getR (r := 83) rfl rfl (hRr _ rm_50_58 (by decide)) ?_
      refine z_iload rfl rfl ?_
      refine z_iald (v := (-4)) rfl rfl (by decide) (by decide) ((e83.trans (by rw [hso]; rfl))) ?_
      refine z_isub (e := 2) rfl rfl ?_
      refine z_istore rfl rfl ?_
      refine z_aload rfl rfl ?_
      refine z_getR (r := 85) rfl rfl (hRr _ rm_50_60 (by decide)) ?_
      refine z_pushI (z := 60) rfl rfl ?_
      refine z_iload rfl rfl ?_
      refine z_imul (e := 60) rfl rfl ?_
      refine z_iload rfl rfl ?_
      refine z_iadd (e := 60 + i) rfl rfl ?_
      refine z_iload rfl rfl ?_
      refine z_if_neT rfl (by decide) (by decide) ?_
      refine z_iload rfl rfl ?_
      refine z_pushI (z := 1) rfl rfl ?_
      refine z_icmp_neT rfl (by decide) (by decide) (by decide) ?_
      refine z_iload rfl rfl ?_
      refine z_pushI (z := 2) rfl rfl ?_
      refine z_icmp_neF rfl (by decide) (by decide) (by decide) ?_
      refine z_lload rfl rfl ?_
      refine z_l2i rfl ?_
      refine z_topn (e := zn v) rfl ?_
      have q4 := zn_r v
      refine z_i2l rfl (by omega) ?_
      refine z_goto rfl ?_
      refine z_last (e := zn v) rfl rfl (by decide) (by omega) rfl ?_
      refine z_pushI (z := 1) rfl rfl ?_
      refine z_iret rfl rfl ?_
      refine ⟨?_, ?_⟩
      · first | rfl | exact congrArg (fun v => some (zi v)) (by omega) | (exfalso; omega)
      · have hk := (zK_r (k := (kL [] [])) (A := J))
        have hkm := (zK_x (a := 85) (x := 60 + i) (v := zn v) (zK_x (a := 41) (x := i) (v := zn v) (zK_r (k := (kL [41, 85] [])) (A := M)) rfl) rfl)
        exact ⟨hR, hG, RelY_k hk (by repeat' constructor) (fun p => by repeat' constructor) hY, RelD_k hk (by repeat' constructor) (fun p => by repeat' constructor) hD, RelP_k hk (by repeat' constructor) (fun p => by repeat' constructor) hP, RelC_k hk (by repeat' constructor) (fun p => by repeat' constructor) hC, RelA_k hk (by repeat' constructor) (fun p => by repeat' constructor) hAc, (RelS_one (J := J) (M := M) (c := 1) (fun t t1 t2 te => by have q : t = 0 ∨ t = 1 ∨ t = 2 ∨ t = 3 ∨ t = 4 ∨ t = 5 := (by omega); rcases q with rfl | rfl | rfl | rfl | rfl | rfl <;> first | exact absurd rfl te | exact ⟨fun j => rfl, rfl, rfl⟩) (fun t t1 t2 te => by have q : t = 0 ∨ t = 1 ∨ t = 2 ∨ t = 3 ∨ t = 4 ∨ t = 5 := (by omega); rcases q with rfl | rfl | rfl | rfl | rfl | rfl <;> first | exact absurd rfl te | exact ⟨fun j => rfl, fun j j1 j2 => (zU_x (by omega)).trans (zU_n (by decide))⟩) rfl (show RelS1 _ _ _ from ⟨(hS 1 (by decide) (by decide)).1, (hS 1 (by decide) (by decide)).2.1, s3, s4, (hS 1 (by decide) (by decide)).2.2.2.2.1, fun _ => ⟨s7.symm, fun k k1 k2 => by show (if k = i then zn v else M 41 k) = (if 60 + k = 60 + i then zn v else M 85 (60 + k)); by_cases e : k = i; rw [if_pos e, if_pos (by omega)]; rw [if_neg e, if_neg (by omega)]; exact s8 k k1 k2, (fun hq => absurd (Eq.trans (Eq.symm hq) hso) (by decide))⟩⟩) hS), RelT_k hk (by repeat' constructor) (fun p => by repeat' constructor) hTp, RelX_k hk (by repeat' constructor) (fun p => by repeat' constructor) hX, RelW_k hk ⟨rfl, rfl⟩ trivial hW⟩
theorem st_put_123 {X : Nat × (Nat → Int32)} {d : Nat} {J M : zA} {R : zR} {i v : Int} (hr : Rel X J M R) (hi : -2147483648 ≤ i ∧ i < 2147483648) (hv : -9223372036854775808 ≤ v ∧ v < 9223372036854775808) (hh : J 40 0 = 2) (hso : J 40 2 = 3) : zW X (d + 20) 138 0 (gEn 138 [(.ref 0), (zi 1), (zi i), (zl v)]) [] J M R (stP X (d + 20) 252 [(zi 1), (zi i), (zl v)]) := by
  have hr0 := hr
  obtain ⟨hR, hG, hY, hD, hP, hC, hAc, hS, hTp, hX, hW⟩ := hr0
  have hRr : zRoR R := zRoR_of hR
  have e83 : J 83 1 = -2 - J 40 2 := (hS 1 (by decide) (by decide)).1.symm.trans (cH_2 hh)
  have s3 : 0 ≤ J 40 2 ∧ J 40 2 ≤ 4 := (hS 1 (by decide) (by decide)).2.2.1
  have s4 : 0 ≤ J 40 3 ∧ J 40 3 ≤ 60 := (hS 1 (by decide) (by decide)).2.2.2.1
  have s6 := (hS 1 (by decide) (by decide)).2.2.2.2.2 hh
  have s7 : J 84 1 = J 40 3 := s6.1.symm
  have s8 : ∀ i, 0 ≤ i → i < J 40 3 → M 41 i = M 85 (60 + i) := s6.2.1
  show zW _ _ _ _ [some (.ref 0), some (zi 1), some (zi i), some (zl v), none, none] _ _ _ _ _
  refine z_iload rfl rfl ?_
  refine z_callSi (As := [_]) (le := [some _]) rfl rfl (Nat.le_of_ble_eq_true rfl) (Nat.le_of_ble_eq_true rfl) rfl ?_
  refine z_iload rfl rfl ?_
  refine z_if_ltF rfl (by decide) (by decide) ?_
  refine z_iload rfl rfl ?_
  refine z_pushI (z := 6) rfl rfl ?_
  refine z_icmp_geF rfl (by decide) (by decide) (by decide) ?_
  refine z_pushI (z := 1) rfl rfl ?_
  refine z_goto rfl ?_
  refine z_bret rfl rfl (by decide) ?_
  show zW _ _ _ _ _ _ _ _ _ _
  refine z_if_neT rfl (by decide) (by decide) ?_
  refine z_aload rfl rfl ?_
  refine z_getR (r := 37) rfl rfl (hR _ rm_0_11) ?_
  refine z_iload rfl rfl ?_
  refine z_aald (r := 40) rfl rfl (by decide) (by decide) (hR _ rm_37_1) ?_
  refine z_iload rfl rfl ?_
  refine z_callVi (As := [_]) (le := [some _, some _]) rfl rfl rfl (Nat.le_of_ble_eq_true rfl) (Nat.le_of_ble_eq_true rfl) rfl ?_
  refine z_aload rfl rfl ?_
  refine z_getI (v := 2) rfl rfl (hh) ?_
  refine z_if_neT rfl (by decide) (by decide) ?_
  refine z_aload rfl rfl ?_
  refine z_getI (v := 2) rfl rfl (hh) ?_
  refine z_pushI (z := 2) rfl rfl ?_
  refine z_icmp_eqT rfl (by decide) (by decide) (by decide) ?_
  refine z_iload rfl rfl ?_
  refine z_if_lt rfl (by omega) (fun h1 => ?_) (fun h1 => ?_)
  · refine z_pushI (z := (-13)) rfl rfl ?_
    refine z_iret rfl rfl ?_
    show zW _ _ _ _ _ _ _ _ _ _
    refine z_istore rfl rfl ?_
    refine z_iload rfl rfl ?_
    refine z_if_geF rfl (by decide) (by decide) ?_
    refine z_iload rfl rfl ?_
    refine z_iret rfl rfl ?_
    refine ⟨_, rfl, ?_⟩
    show zW _ _ _ _ [some (.ref 50), some (zi 1), some (zi i), some (zl v), none, none, none] _ _ _ _ _
    refine z_aload rfl rfl ?_
    refine z_iload rfl rfl ?_
    refine z_iload rfl rfl ?_
    refine z_callVi (As := [_, _]) (le := [some _, some _, some _]) rfl rfl rfl (Nat.le_of_ble_eq_true rfl) (Nat.le_of_ble_eq_true rfl) rfl ?_
    refine z_iload rfl rfl ?_
    refine z_callSi (As := [_]) (le := [some _]) rfl rfl (Nat.le_of_ble_eq_true rfl) (Nat.le_of_ble_eq_true rfl) rfl ?_
    refine z_iload rfl rfl ?_
    refine z_pushI (z := 0) rfl rfl ?_
    refine z_pushI (z := 5) rfl rfl ?_
    refine z_callSi (As := [_, _, _]) (le := [some _, some _, some _]) rfl rfl (Nat.le_of_ble_eq_true rfl) (Nat.le_of_ble_eq_true rfl) rfl ?_
    refine z_iload rfl rfl ?_
    refine z_iload rfl rfl ?_
    refine z_icmp_ltF rfl (by decide) (by decide) (by decide) ?_
    refine z_iload rfl rfl ?_
    refine z_iload rfl rfl ?_
    refine z_icmp_gtF rfl (by decide) (by decide) (by decide) ?_
    refine z_pushI (z := 1) rfl rfl ?_
    refine z_goto rfl ?_
    refine z_bret rfl rfl (by decide) ?_
    show zW _ _ _ _ _ _ _ _ _ _
    refine z_bret rfl rfl (by decide) ?_
    show zW _ _ _ _ _ _ _ _ _ _
    refine z_if_neT rfl (by decide) (by decide) ?_
    refine z_aload rfl rfl ?_
    refine z_getR (r := 83) rfl rfl (hRr _ rm_50_58 (by decide)) ?_
    refine z_iload rfl rfl ?_
    refine z_iald (v := (-5)) rfl rfl (by decide) (by decide) ((e83.trans (by rw [hso]; rfl))) ?_
    refine z_pushI (z := (-1)) rfl rfl ?_
    refine z_icmp_neT rfl (by decide) (by decide) (by decide) ?_
    refine z_aload rfl rfl ?_
    refine z_getR (r := 83) rfl rfl (hRr _ rm_50_58 (by decide)) ?_
    refine z_iload rfl rfl ?_
    refine z_iald (v := (-5)) rfl rfl (by decide) (by decide) ((e83.trans (by rw [hso]; rfl))) ?_
    refine z_if_ltT rfl (by decide) (by decide) ?_
    refine z_iload rfl rfl ?_
    refine z_pushI (z := 0) rfl rfl ?_
    refine z_aload rfl rfl ?_
    refine z_getR (r := 84) rfl rfl (hRr _ rm_50_59 (by decide)) ?_
    refine z_iload rfl rfl ?_
    refine z_iald (v := J 40 3) rfl rfl (by decide) (by decide) (s7) ?_
    refine z_pushI (z := 1) rfl rfl ?_
    refine z_isub (e := (J 40 3) - 1) rfl rfl ?_
    refine z_callSi (As := [_, _, _]) (le := [some _, some _, some _]) rfl rfl (Nat.le_of_ble_eq_true rfl) (Nat.le_of_ble_eq_true rfl) rfl ?_
    refine z_iload rfl rfl ?_
    refine z_iload rfl rfl ?_
    refine z_icmp_ltT rfl (by omega) (by decide) (by omega) ?_
    refine z_pushI (z := 0) rfl rfl ?_
    refine z_bret rfl rfl (by decide) ?_
    show zW _ _ _ _ _ _ _ _ _ _
    refine z_if_eqT rfl (by decide) (by decide) ?_
    refine z_pushI (z := (-13)) rfl rfl ?_
    refine z_iret rfl rfl ?_
    show zW _ _ _ _ _ _ _ _ _ _
    refine z_istore rfl rfl ?_
    refine z_iload rfl rfl ?_
    refine z_if_geF rfl (by decide) (by decide) ?_
    refine z_iload rfl rfl ?_
    refine z_iret rfl rfl ?_
    refine ⟨?_, ?_⟩
    · first | rfl | exact congrArg (fun v => some (zi v)) (by omega) | (exfalso; omega)
    · exact hr
  · refine z_iload rfl rfl ?_
    refine z_aload rfl rfl ?_
    refine z_getI (v := J 40 3) rfl rfl (rfl) ?_
    refine z_icmp_ge rfl (by omega) (by omega) (fun h2 => ?_) (fun h2 => ?_)
    · refine z_pushI (z := (-13)) rfl rfl ?_
      refine z_iret rfl rfl ?_
      show zW _ _ _ _ _ _ _ _ _ _
      refine z_istore rfl rfl ?_
      refine z_iload rfl rfl ?_
      refine z_if_geF rfl (by decide) (by decide) ?_
      refine z_iload rfl rfl ?_
      refine z_iret rfl rfl ?_
      refine ⟨_, rfl, ?_⟩
      show zW _ _ _ _ [some (.ref 50), some (zi 1), some (zi i), some (zl v), none, none, none] _ _ _ _ _
      refine z_aload rfl rfl ?_
      refine z_iload rfl rfl ?_
      refine z_iload rfl rfl ?_
      refine z_callVi (As := [_, _]) (le := [some _, some _, some _]) rfl rfl rfl (Nat.le_of_ble_eq_true rfl) (Nat.le_of_ble_eq_true rfl) rfl ?_
      refine z_iload rfl rfl ?_
      refine z_callSi (As := [_]) (le := [some _]) rfl rfl (Nat.le_of_ble_eq_true rfl) (Nat.le_of_ble_eq_true rfl) rfl ?_
      refine z_iload rfl rfl ?_
      refine z_pushI (z := 0) rfl rfl ?_
      refine z_pushI (z := 5) rfl rfl ?_
      refine z_callSi (As := [_, _, _]) (le := [some _, some _, some _]) rfl rfl (Nat.le_of_ble_eq_true rfl) (Nat.le_of_ble_eq_true rfl) rfl ?_
      refine z_iload rfl rfl ?_
      refine z_iload rfl rfl ?_
      refine z_icmp_ltF rfl (by decide) (by decide) (by decide) ?_
      refine z_iload rfl rfl ?_
      refine z_iload rfl rfl ?_
      refine z_icmp_gtF rfl (by decide) (by decide) (by decide) ?_
      refine z_pushI (z := 1) rfl rfl ?_
      refine z_goto rfl ?_
      refine z_bret rfl rfl (by decide) ?_
      show zW _ _ _ _ _ _ _ _ _ _
      refine z_bret rfl rfl (by decide) ?_
      show zW _ _ _ _ _ _ _ _ _ _
      refine z_if_neT rfl (by decide) (by decide) ?_
      refine z_aload rfl rfl ?_
      refine z_getR (r := 83) rfl rfl (hRr _ rm_50_58 (by decide)) ?_
      refine z_iload rfl rfl ?_
      refine z_iald (v := (-5)) rfl rfl (by decide) (by decide) ((e83.trans (by rw [hso]; rfl))) ?_
      refine z_pushI (z := (-1)) rfl rfl ?_
      refine z_icmp_neT rfl (by decide) (by decide) (by decide) ?_
      refine z_aload rfl rfl ?_
      refine z_getR (r := 83) rfl rfl (hRr _ rm_50_58 (by decide)) ?_
      refine z_iload rfl rfl ?_
      refine z_iald (v := (-5)) rfl rfl (by decide) (by decide) ((e83.trans (by rw [hso]; rfl))) ?_
      refine z_if_ltT rfl (by decide) (by decide) ?_
      refine z_iload rfl rfl ?_
      refine z_pushI (z := 0) rfl rfl ?_
      refine z_aload rfl rfl ?_
      refine z_getR (r := 84) rfl rfl (hRr _ rm_50_59 (by decide)) ?_
      refine z_iload rfl rfl ?_
      refine z_iald (v := J 40 3) rfl rfl (by decide) (by decide) (s7) ?_
      refine z_pushI (z := 1) rfl rfl ?_
      refine z_isub (e := (J 40 3) - 1) rfl rfl ?_
      refine z_callSi (As := [_, _, _]) (le := [some _, some _, some _]) rfl rfl (Nat.le_of_ble_eq_true rfl) (Nat.le_of_ble_eq_true rfl) rfl ?_
      refine z_iload rfl rfl ?_
      refine z_iload rfl rfl ?_
      refine z_icmp_ltF rfl (by omega) (by decide) (by omega) ?_
      refine z_iload rfl rfl ?_
      refine z_iload rfl rfl ?_
      refine z_icmp_gtT rfl (by omega) (by omega) (by omega) ?_
      refine z_pushI (z := 0) rfl rfl ?_
      refine z_bret rfl rfl (by decide) ?_
      show zW _ _ _ _ _ _ _ _ _ _
      refine z_if_eqT rfl (by decide) (by decide) ?_
      refine z_pushI (z := (-13)) rfl rfl ?_
      refine z_iret rfl rfl ?_
      show zW _ _ _ _ _ _ _ _ _ _
      refine z_istore rfl rfl ?_
      refine z_iload rfl rfl ?_
      refine z_if_geF rfl (by decide) (by decide) ?_
      refine z_iload rfl rfl ?_
      refine z_iret rfl rfl ?_
      refine ⟨?_, ?_⟩
      · first | rfl | exact congrArg (fun v => some (zi v)) (by omega) | (exfalso; omega)
      · exact hr
    · refine z_pushI (z := 0) rfl rfl ?_
      refine z_goto rfl ?_
      refine z_iret rfl rfl ?_
      show zW _ _ _ _ _ _ _ _ _ _
      refine z_istore rfl rfl ?_
      refine z_iload rfl rfl ?_
      refine z_if_geT rfl (by decide) (by decide) ?_
      refine z_aload rfl rfl ?_
      refine z_getR (r := 37) rfl rfl (hR _ rm_0_11) ?_
      refine z_iload rfl rfl ?_
      refine z_aald (r := 40) rfl rfl (by decide) (by decide) (hR _ rm_37_1) ?_
      refine z_iload rfl rfl ?_
      refine z_lload rfl rfl ?_
      refine z_callVi (As := [_, _]) (le := [some _, some _, some _, none]) rfl rfl rfl (Nat.le_of_ble_eq_true rfl) (Nat.le_of_ble_eq_true rfl) rfl ?_
      refine z_iload rfl rfl ?_
      refine z_if_ltF rfl (by omega) (by omega) ?_
      refine z_iload rfl rfl ?_
      refine z_aload rfl rfl ?_
      refine z_getI (v := J 40 3) rfl rfl (rfl) ?_
      refine z_icmp_geF rfl (by omega) (by omega) (by omega) ?_
      refine z_aload rfl rfl ?_
      refine z_getR (r := 41) rfl rfl (hR _ rm_40_4) ?_
      refine z_iload rfl rfl ?_
      refine z_aload rfl rfl ?_
      refine z_lload rfl rfl ?_
      refine z_callVi (As := [_]) (le := [some _, some _, none]) rfl rfl rfl (Nat.le_of_ble_eq_true rfl) (Nat.le_of_ble_eq_true rfl) rfl ?_
      refine z_aload rfl rfl ?_
      refine z_getI (v := 3) rfl rfl (hso) ?_
      refine z_swI (tg := 66) rfl (by decide) (T := [((0 : Int), 40), ((1 : Int), 45), ((2 : Int), 50), ((3 : Int), 66), ((4 : Int), 54)]) rfl (by decide) ?_
      refine z_lload rfl rfl ?_
      refine z_lret rfl rfl ?_
      show zW _ _ _ _ _ _ _ _ _ _
      refine z_last (e := v) rfl rfl (by decide) (by omega) rfl ?_
      refine z_vret rfl rfl ?_
      show zW _ _ _ _ _ _ _ _ _ _
      refine z_pushI (z := 1) rfl rfl ?_
      refine z_iret rfl rfl ?_
      refine ⟨_, rfl, ?_⟩
      show zW _ _ _ _ [some (.ref 50), some (zi 1), some (zi i), some (zl v), none, none, none] _ _ _ _ _
      refine z_aload rfl rfl ?_
      refine z_iload rfl rfl ?_
      refine z_iload rfl rfl ?_
      refine z_callVi (As := [_, _]) (le := [some _, some _, some _]) rfl rfl rfl (Nat.le_of_ble_eq_true rfl) (Nat.le_of_ble_eq_true rfl) rfl ?_
      refine z_iload rfl rfl ?_
      refine z_callSi (As := [_]) (le := [some _]) rfl rfl (Nat.le_of_ble_eq_true rfl) (Nat.le_of_ble_eq_true rfl) rfl ?_
      refine z_iload rfl rfl ?_
      refine z_pushI (z := 0) rfl rfl ?_
      refine z_pushI (z := 5) rfl rfl ?_
      refine z_callSi (As := [_, _, _]) (le := [some _, some _, some _]) rfl rfl (Nat.le_of_ble_eq_true rfl) (Nat.le_of_ble_eq_true rfl) rfl ?_
      refine z_iload rfl rfl ?_
      refine z_iload rfl rfl ?_
      refine z_icmp_ltF rfl (by decide) (by decide) (by decide) ?_
      refine z_iload rfl rfl ?_
      refine z_iload rfl rfl ?_
      refine z_icmp_gtF rfl (by decide) (by decide) (by decide) ?_
      refine z_pushI (z := 1) rfl rfl ?_
      refine z_goto rfl ?_
      refine z_bret rfl rfl (by decide) ?_
      show zW _ _ _ _ _ _ _ _ _ _
      refine z_bret rfl rfl (by decide) ?_
      show zW _ _ _ _ _ _ _ _ _ _
      refine z_if_neT rfl (by decide) (by decide) ?_
      refine z_aload rfl rfl ?_
      refine z_getR (r := 83) rfl rfl (hRr _ rm_50_58 (by decide)) ?_
      refine z_iload rfl rfl ?_
      refine z_iald (v := (-5)) rfl rfl (by decide) (by decide) ((e83.trans (by rw [hso]; rfl))) ?_
      refine z_pushI (z := (-1)) rfl rfl ?_
      refine z_icmp_neT rfl (by decide) (by decide) (by decide) ?_
      refine z_aload rfl rfl ?_
      refine z_getR (r := 83) rfl rfl (hRr _ rm_50_58 (by decide)) ?_
      refine z_iload rfl rfl ?_
      refine z_iald (v := (-5)) rfl rfl (by decide) (by decide) ((e83.trans (by rw [hso]; rfl))) ?_
      refine z_if_ltT rfl (by decide) (by decide) ?_
      refine z_iload rfl rfl ?_
      refine z_pushI (z := 0) rfl rfl ?_
      refine z_aload rfl rfl ?_
      refine z_getR (r := 84) rfl rfl (hRr _ rm_50_59 (by decide)) ?_
      refine z_iload rfl rfl ?_
      refine z_iald (v := J 40 3) rfl rfl (by decide) (by decide) (s7) ?_
      refine z_pushI (z := 1) rfl rfl ?_
      refine z_isub (e := (J 40 3) - 1) rfl rfl ?_
      refine z_callSi (As := [_, _, _]) (le := [some _, some _, some _]) rfl rfl (Nat.le_of_ble_eq_true rfl) (Nat.le_of_ble_eq_true rfl) rfl ?_
      refine z_iload rfl rfl ?_
      refine z_iload rfl rfl ?_
      refine z_icmp_ltF rfl (by omega) (by decide) (by omega) ?_
      refine z_iload rfl rfl ?_
      refine z_iload rfl rfl ?_
      refine z_icmp_gtF rfl (by omega) (by omega) (by omega) ?_
      refine z_pushI (z := 1) rfl rfl ?_
      refine z_goto rfl ?_
      refine z_bret rfl rfl (by decide) ?_
      show zW _ _ _ _ _ _ _ _ _ _
      refine z_if_eqF rfl (by decide) (by decide) ?_
      refine z_pushI (z := 0) rfl rfl ?_
      refine z_goto rfl ?_
      refine z_iret rfl rfl ?_
      show zW _ _ _ _ _ _ _ _ _ _
      refine z_istore rfl rfl ?_
      refine z_iload rfl rfl ?_
      refine z_if_geT rfl (by decide) (by decide) ?_
      refine z_pushI (z := (-2)) rfl rfl ?_
      refine z_aload rfl rfl ?_
      refine z_getR (r := 83) rfl rfl (hRr _ rm_50_58 (by decide)) ?_
      refine z_iload rfl rfl ?_
      refine z_iald (v := (-5)) rfl rfl (by decide) (by decide) ((e83.trans (by rw [hso]; rfl))) ?_
      refine z_isub (e := 3) rfl rfl ?_
      refine z_istore rfl rfl ?_
      refine z_aload rfl rfl ?_
      refine z_getR (r := 85) rfl rfl (hRr _ rm_50_60 (by decide)) ?_
      refine z_pushI (z := 60) rfl rfl ?_
      refine z_iload rfl rfl ?_
      refine z_imul (e := 60) rfl rfl ?_
      refine z_iload rfl rfl ?_
      refine z_iadd (e := 60 + i) rfl rfl ?_
      refine z_iload rfl rfl ?_
      refine z_if_neT rfl (by decide) (by decide) ?_
      refine z_iload rfl rfl ?_
      refine z_pushI (z := 1) rfl rfl ?_
      refine z_icmp_neT rfl (by decide) (by decide) (by decide) ?_
      refine z_iload rfl rfl ?_
      refine z_pushI (z := 2) rfl rfl ?_
      refine z_icmp_neT rfl (by decide) (by decide) (by decide) ?_
      refine z_iload rfl rfl ?_
      refine z_pushI (z := 3) rfl rfl ?_
      refine z_icmp_neF rfl (by decide) (by decide) (by decide) ?_
      refine z_lload rfl rfl ?_
      refine z_goto rfl ?_
      refine z_last (e := v) rfl rfl (by decide) (by omega) rfl ?_
      refine z_pushI (z := 1) rfl rfl ?_
      refine z_iret rfl rfl ?_
      refine ⟨?_, ?_⟩
      · first | rfl | exact congrArg (fun v => some (zi v)) (by omega) | (exfalso; omega)
      · have hk := (zK_r (k := (kL [] [])) (A := J))
        have hkm := (zK_x (a := 85) (x := 60 + i) (v := v) (zK_x (a := 41) (x := i) (v := v) (zK_r (k := (kL [41, 85] [])) (A := M)) rfl) rfl)
        exact ⟨hR, hG, RelY_k hk (by repeat' constructor) (fun p => by repeat' constructor) hY, RelD_k hk (by repeat' constructor) (fun p => by repeat' constructor) hD, RelP_k hk (by repeat' constructor) (fun p => by repeat' constructor) hP, RelC_k hk (by repeat' constructor) (fun p => by repeat' constructor) hC, RelA_k hk (by repeat' constructor) (fun p => by repeat' constructor) hAc, (RelS_one (J := J) (M := M) (c := 1) (fun t t1 t2 te => by have q : t = 0 ∨ t = 1 ∨ t = 2 ∨ t = 3 ∨ t = 4 ∨ t = 5 := (by omega); rcases q with rfl | rfl | rfl | rfl | rfl | rfl <;> first | exact absurd rfl te | exact ⟨fun j => rfl, rfl, rfl⟩) (fun t t1 t2 te => by have q : t = 0 ∨ t = 1 ∨ t = 2 ∨ t = 3 ∨ t = 4 ∨ t = 5 := (by omega); rcases q with rfl | rfl | rfl | rfl | rfl | rfl <;> first | exact absurd rfl te | exact ⟨fun j => rfl, fun j j1 j2 => (zU_x (by omega)).trans (zU_n (by decide))⟩) rfl (show RelS1 _ _ _ from ⟨(hS 1 (by decide) (by decide)).1, (hS 1 (by decide) (by decide)).2.1, s3, s4, (hS 1 (by decide) (by decide)).2.2.2.2.1, fun _ => ⟨s7.symm, fun k k1 k2 => by show (if k = i then v else M 41 k) = (if 60 + k = 60 + i then v else M 85 (60 + k)); by_cases e : k = i; rw [if_pos e, if_pos (by omega)]; rw [if_neg e, if_neg (by omega)]; exact s8 k k1 k2, (fun hq => absurd (Eq.trans (Eq.symm hq) hso) (by decide))⟩⟩) hS), RelT_k hk (by repeat' constructor) (fun p => by repeat' constructor) hTp, RelX_k hk (by repeat' constructor) (fun p => by repeat' constructor) hX, RelW_k hk ⟨rfl, rfl⟩ trivial hW⟩
theorem st_put_124 {X : Nat × (Nat → Int32)} {d : Nat} {J M : zA} {R : zR} {i v : Int} (hr : Rel X J M R) (hi : -2147483648 ≤ i ∧ i < 2147483648) (hv : -9223372036854775808 ≤ v ∧ v < 9223372036854775808) (hh : J 40 0 = 2) (hso : J 40 2 = 4) : zW X (d + 20) 138 0 (gEn 138 [(.ref 0), (zi 1), (zi i), (zl v)]) [] J M R (stP X (d + 20) 252 [(zi 1), (zi i), (zl v)]) := by
  have hr0 := hr
  obtain ⟨hR, hG, hY, hD, hP, hC, hAc, hS, hTp, hX, hW⟩ := hr0
  have hRr : zRoR R := zRoR_of hR
  have e83 : J 83 1 = -2 - J 40 2 := (hS 1 (by decide) (by decide)).1.symm.trans (cH_2 hh)
  have s3 : 0 ≤ J 40 2 ∧ J 40 2 ≤ 4 := (hS 1 (by decide) (by decide)).2.2.1
  have s4 : 0 ≤ J 40 3 ∧ J 40 3 ≤ 60 := (hS 1 (by decide) (by decide)).2.2.2.1
  have s6 := (hS 1 (by decide) (by decide)).2.2.2.2.2 hh
  have s7 : J 84 1 = J 40 3 := s6.1.symm
  have s8 : ∀ i, 0 ≤ i → i < J 40 3 → M 41 i = M 85 (60 + i) := s6.2.1
  show zW _ _ _ _ [some (.ref 0), some (zi 1), some (zi i), some (zl v), none, none] _ _ _ _ _
  refine z_iload rfl rfl ?_
  refine z_callSi (As := [_]) (le := [some _]) rfl rfl (Nat.le_of_ble_eq_true rfl) (Nat.le_of_ble_eq_true rfl) rfl ?_
  refine z_iload rfl rfl ?_
  refine z_if_ltF rfl (by decide) (by decide) ?_
  refine z_iload rfl rfl ?_
  refine z_pushI (z := 6) rfl rfl ?_
  refine z_icmp_geF rfl (by decide) (by decide) (by decide) ?_
  refine z_pushI (z := 1) rfl rfl ?_
  refine z_goto rfl ?_
  refine z_bret rfl rfl (by decide) ?_
  show zW _ _ _ _ _ _ _ _ _ _
  refine z_if_neT rfl (by decide) (by decide) ?_
  refine z_aload rfl rfl ?_
  refine z_getR (r := 37) rfl rfl (hR _ rm_0_11) ?_
  refine z_iload rfl rfl ?_
  refine z_aald (r := 40) rfl rfl (by decide) (by decide) (hR _ rm_37_1) ?_
  refine z_iload rfl rfl ?_
  refine z_callVi (As := [_]) (le := [some _, some _]) rfl rfl rfl (Nat.le_of_ble_eq_true rfl) (Nat.le_of_ble_eq_true rfl) rfl ?_
  refine z_aload rfl rfl ?_
  refine z_getI (v := 2) rfl rfl (hh) ?_
  refine z_if_neT rfl (by decide) (by decide) ?_
  refine z_aload rfl rfl ?_
  refine z_getI (v := 2) rfl rfl (hh) ?_
  refine z_pushI (z := 2) rfl rfl ?_
  refine z_icmp_eqT rfl (by decide) (by decide) (by decide) ?_
  refine z_iload rfl rfl ?_
  refine z_if_lt rfl (by omega) (fun h1 => ?_) (fun h1 => ?_)
  · refine z_pushI (z := (-13)) rfl rfl ?_
    refine z_iret rfl rfl ?_
    show zW _ _ _ _ _ _ _ _ _ _
    refine z_istore rfl rfl ?_
    refine z_iload rfl rfl ?_
    refine z_if_geF rfl (by decide) (by decide) ?_
    refine z_iload rfl rfl ?_
    refine z_iret rfl rfl ?_
    refine ⟨_, rfl, ?_⟩
    show zW _ _ _ _ [some (.ref 50), some (zi 1), some (zi i), some (zl v), none, none, none] _ _ _ _ _
    refine z_aload rfl rfl ?_
    refine z_iload rfl rfl ?_
    refine z_iload rfl rfl ?_
    refine z_callVi (As := [_, _]) (le := [some _, some _, some _]) rfl rfl rfl (Nat.le_of_ble_eq_true rfl) (Nat.le_of_ble_eq_true rfl) rfl ?_
    refine z_iload rfl rfl ?_
    refine z_callSi (As := [_]) (le := [some _]) rfl rfl (Nat.le_of_ble_eq_true rfl) (Nat.le_of_ble_eq_true rfl) rfl ?_
    refine z_iload rfl rfl ?_
    refine z_pushI (z := 0) rfl rfl ?_
    refine z_pushI (z := 5) rfl rfl ?_
    refine z_callSi (As := [_, _, _]) (le := [some _, some _, some _]) rfl rfl (Nat.le_of_ble_eq_true rfl) (Nat.le_of_ble_eq_true rfl) rfl ?_
    refine z_iload rfl rfl ?_
    refine z_iload rfl rfl ?_
    refine z_icmp_ltF rfl (by decide) (by decide) (by decide) ?_
    refine z_iload rfl rfl ?_
    refine z_iload rfl rfl ?_
    refine z_icmp_gtF rfl (by decide) (by decide) (by decide) ?_
    refine z_pushI (z := 1) rfl rfl ?_
    refine z_goto rfl ?_
    refine z_bret rfl rfl (by decide) ?_
    show zW _ _ _ _ _ _ _ _ _ _
    refine z_bret rfl rfl (by decide) ?_
    show zW _ _ _ _ _ _ _ _ _ _
    refine z_if_neT rfl (by decide) (by decide) ?_
    refine z_aload rfl rfl ?_
    refine z_getR (r := 83) rfl rfl (hRr _ rm_50_58 (by decide)) ?_
    refine z_iload rfl rfl ?_
    refine z_iald (v := (-6)) rfl rfl (by decide) (by decide) ((e83.trans (by rw [hso]; rfl))) ?_
    refine z_pushI (z := (-1)) rfl rfl ?_
    refine z_icmp_neT rfl (by decide) (by decide) (by decide) ?_
    refine z_aload rfl rfl ?_
    refine z_getR (r := 83) rfl rfl (hRr _ rm_50_58 (by decide)) ?_
    refine z_iload rfl rfl ?_
    refine z_iald (v := (-6)) rfl rfl (by decide) (by decide) ((e83.trans (by rw [hso]; rfl))) ?_
    refine z_if_ltT rfl (by decide) (by decide) ?_
    refine z_iload rfl rfl ?_
    refine z_pushI (z := 0) rfl rfl ?_
    refine z_aload rfl rfl ?_
    refine z_getR (r := 84) rfl rfl (hRr _ rm_50_59 (by decide)) ?_
    refine z_iload rfl rfl ?_
    refine z_iald (v := J 40 3) rfl rfl (by decide) (by decide) (s7) ?_
    refine z_pushI (z := 1) rfl rfl ?_
    refine z_isub (e := (J 40 3) - 1) rfl rfl ?_
    refine z_callSi (As := [_, _, _]) (le := [some _, some _, some _]) rfl rfl (Nat.le_of_ble_eq_true rfl) (Nat.le_of_ble_eq_true rfl) rfl ?_
    refine z_iload rfl rfl ?_
    refine z_iload rfl rfl ?_
    refine z_icmp_ltT rfl (by omega) (by decide) (by omega) ?_
    refine z_pushI (z := 0) rfl rfl ?_
    refine z_bret rfl rfl (by decide) ?_
    show zW _ _ _ _ _ _ _ _ _ _
    refine z_if_eqT rfl (by decide) (by decide) ?_
    refine z_pushI (z := (-13)) rfl rfl ?_
    refine z_iret rfl rfl ?_
    show zW _ _ _ _ _ _ _ _ _ _
    refine z_istore rfl rfl ?_
    refine z_iload rfl rfl ?_
    refine z_if_geF rfl (by decide) (by decide) ?_
    refine z_iload rfl rfl ?_
    refine z_iret rfl rfl ?_
    refine ⟨?_, ?_⟩
    · first | rfl | exact congrArg (fun v => some (zi v)) (by omega) | (exfalso; omega)
    · exact hr
  · refine z_iload rfl rfl ?_
    refine z_aload rfl rfl ?_
    refine z_getI (v := J 40 3) rfl rfl (rfl) ?_
    refine z_icmp_ge rfl (by omega) (by omega) (fun h2 => ?_) (fun h2 => ?_)
    · refine z_pushI (z := (-13)) rfl rfl ?_
      refine z_iret rfl rfl ?_
      show zW _ _ _ _ _ _ _ _ _ _
      refine z_istore rfl rfl ?_
      refine z_iload rfl rfl ?_
      refine z_if_geF rfl (by decide) (by decide) ?_
      refine z_iload rfl rfl ?_
      refine z_iret rfl rfl ?_
      refine ⟨_, rfl, ?_⟩
      show zW _ _ _ _ [some (.ref 50), some (zi 1), some (zi i), some (zl v), none, none, none] _ _ _ _ _
      refine z_aload rfl rfl ?_
      refine z_iload rfl rfl ?_
      refine z_iload rfl rfl ?_
      refine z_callVi (As := [_, _]) (le := [some _, some _, some _]) rfl rfl rfl (Nat.le_of_ble_eq_true rfl) (Nat.le_of_ble_eq_true rfl) rfl ?_
      refine z_iload rfl rfl ?_
      refine z_callSi (As := [_]) (le := [some _]) rfl rfl (Nat.le_of_ble_eq_true rfl) (Nat.le_of_ble_eq_true rfl) rfl ?_
      refine z_iload rfl rfl ?_
      refine z_pushI (z := 0) rfl rfl ?_
      refine z_pushI (z := 5) rfl rfl ?_
      refine z_callSi (As := [_, _, _]) (le := [some _, some _, some _]) rfl rfl (Nat.le_of_ble_eq_true rfl) (Nat.le_of_ble_eq_true rfl) rfl ?_
      refine z_iload rfl rfl ?_
      refine z_iload rfl rfl ?_
      refine z_icmp_ltF rfl (by decide) (by decide) (by decide) ?_
      refine z_iload rfl rfl ?_
      refine z_iload rfl rfl ?_
      refine z_icmp_gtF rfl (by decide) (by decide) (by decide) ?_
      refine z_pushI (z := 1) rfl rfl ?_
      refine z_goto rfl ?_
      refine z_bret rfl rfl (by decide) ?_
      show zW _ _ _ _ _ _ _ _ _ _
      refine z_bret rfl rfl (by decide) ?_
      show zW _ _ _ _ _ _ _ _ _ _
      refine z_if_neT rfl (by decide) (by decide) ?_
      refine z_aload rfl rfl ?_
      refine z_getR (r := 83) rfl rfl (hRr _ rm_50_58 (by decide)) ?_
      refine z_iload rfl rfl ?_
      refine z_iald (v := (-6)) rfl rfl (by decide) (by decide) ((e83.trans (by rw [hso]; rfl))) ?_
      refine z_pushI (z := (-1)) rfl rfl ?_
      refine z_icmp_neT rfl (by decide) (by decide) (by decide) ?_
      refine z_aload rfl rfl ?_
      refine z_getR (r := 83) rfl rfl (hRr _ rm_50_58 (by decide)) ?_
      refine z_iload rfl rfl ?_
      refine z_iald (v := (-6)) rfl rfl (by decide) (by decide) ((e83.trans (by rw [hso]; rfl))) ?_
      refine z_if_ltT rfl (by decide) (by decide) ?_
      refine z_iload rfl rfl ?_
      refine z_pushI (z := 0) rfl rfl ?_
      refine z_aload rfl rfl ?_
      refine z_getR (r := 84) rfl rfl (hRr _ rm_50_59 (by decide)) ?_
      refine z_iload rfl rfl ?_
      refine z_iald (v := J 40 3) rfl rfl (by decide) (by decide) (s7) ?_
      refine z_pushI (z := 1) rfl rfl ?_
      refine z_isub (e := (J 40 3) - 1) rfl rfl ?_
      refine z_callSi (As := [_, _, _]) (le := [some _, some _, some _]) rfl rfl (Nat.le_of_ble_eq_true rfl) (Nat.le_of_ble_eq_true rfl) rfl ?_
      refine z_iload rfl rfl ?_
      refine z_iload rfl rfl ?_
      refine z_icmp_ltF rfl (by omega) (by decide) (by omega) ?_
      refine z_iload rfl rfl ?_
      refine z_iload rfl rfl ?_
      refine z_icmp_gtT rfl (by omega) (by omega) (by omega) ?_
      refine z_pushI (z := 0) rfl rfl ?_
      refine z_bret rfl rfl (by decide) ?_
      show zW _ _ _ _ _ _ _ _ _ _
      refine z_if_eqT rfl (by decide) (by decide) ?_
      refine z_pushI (z := (-13)) rfl rfl ?_
      refine z_iret rfl rfl ?_
      show zW _ _ _ _ _ _ _ _ _ _
      refine z_istore rfl rfl ?_
      refine z_iload rfl rfl ?_
      refine z_if_geF rfl (by decide) (by decide) ?_
      refine z_iload rfl rfl ?_
      refine z_iret rfl rfl ?_
      refine ⟨?_, ?_⟩
      · first | rfl | exact congrArg (fun v => some (zi v)) (by omega) | (exfalso; omega)
      · exact hr
    · refine z_pushI (z := 0) rfl rfl ?_
      refine z_goto rfl ?_
      refine z_iret rfl rfl ?_
      show zW _ _ _ _ _ _ _ _ _ _
      refine z_istore rfl rfl ?_
      refine z_iload rfl rfl ?_
      refine z_if_geT rfl (by decide) (by decide) ?_
      refine z_aload rfl rfl ?_
      refine z_getR (r := 37) rfl rfl (hR _ rm_0_11) ?_
      refine z_iload rfl rfl ?_
      refine z_aald (r := 40) rfl rfl (by decide) (by decide) (hR _ rm_37_1) ?_
      refine z_iload rfl rfl ?_
      refine z_lload rfl rfl ?_
      refine z_callVi (As := [_, _]) (le := [some _, some _, some _, none]) rfl rfl rfl (Nat.le_of_ble_eq_true rfl) (Nat.le_of_ble_eq_true rfl) rfl ?_
      refine z_iload rfl rfl ?_
      refine z_if_ltF rfl (by omega) (by omega) ?_
      refine z_iload rfl rfl ?_
      refine z_aload rfl rfl ?_
      refine z_getI (v := J 40 3) rfl rfl (rfl) ?_
      refine z_icmp_geF rfl (by omega) (by omega) (by omega) ?_
      refine z_aload rfl rfl ?_
      refine z_getR (r := 41) rfl rfl (hR _ rm_40_4) ?_
      refine z_iload rfl rfl ?_
      refine z_aload rfl rfl ?_
      refine z_lload rfl rfl ?_
      refine z_callVi (As := [_]) (le := [some _, some _, none]) rfl rfl rfl (Nat.le_of_ble_eq_true rfl) (Nat.le_of_ble_eq_true rfl) rfl ?_
      refine z_aload rfl rfl ?_
      refine z_getI (v := 4) rfl rfl (hso) ?_
      refine z_swI (tg := 54) rfl (by decide) (T := [((0 : Int), 40), ((1 : Int), 45), ((2 : Int), 50), ((3 : Int), 66), ((4 : Int), 54)]) rfl (by decide) ?_
      refine z_lload rfl rfl ?_
      refine z_pushL (z := 0) rfl rfl ?_
      refine z_lcmp_eq rfl rfl (by omega) (by omega) (fun h3 => ?_) (fun h3 => ?_)
      · refine z_pushL (z := 0) rfl rfl ?_
        refine z_lret rfl rfl ?_
        show zW _ _ _ _ _ _ _ _ _ _
        refine z_last (e := 0) rfl rfl (by decide) (by omega) rfl ?_
        refine z_vret rfl rfl ?_
        show zW _ _ _ _ _ _ _ _ _ _
        refine z_pushI (z := 1) rfl rfl ?_
        refine z_iret rfl rfl ?_
        refine ⟨_, rfl, ?_⟩
        show zW _ _ _ _ [some (.ref 50), some (zi 1), some (zi i), some (zl v), none, none, none] _ _ _ _ _
        refine z_aload rfl rfl ?_
        refine z_iload rfl rfl ?_
        refine z_iload rfl rfl ?_
        refine z_callVi (As := [_, _]) (le := [some _, some _, some _]) rfl rfl rfl (Nat.le_of_ble_eq_true rfl) (Nat.le_of_ble_eq_true rfl) rfl ?_
        refine z_iload rfl rfl ?_
        refine z_callSi (As := [_]) (le := [some _]) rfl rfl (Nat.le_of_ble_eq_true rfl) (Nat.le_of_ble_eq_true rfl) rfl ?_
        refine z_iload rfl rfl ?_
        refine z_pushI (z := 0) rfl rfl ?_
        refine z_pushI (z := 5) rfl rfl ?_
        refine z_callSi (As := [_, _, _]) (le := [some _, some _, some _]) rfl rfl (Nat.le_of_ble_eq_true rfl) (Nat.le_of_ble_eq_true rfl) rfl ?_
        refine z_iload rfl rfl ?_
        refine z_iload rfl rfl ?_
        refine z_icmp_ltF rfl (by decide) (by decide) (by decide) ?_
        refine z_iload rfl rfl ?_
        refine z_iload rfl rfl ?_
        refine z_icmp_gtF rfl (by decide) (by decide) (by decide) ?_
        refine z_pushI (z := 1) rfl rfl ?_
        refine z_goto rfl ?_
        refine z_bret rfl rfl (by decide) ?_
        show zW _ _ _ _ _ _ _ _ _ _
        refine z_bret rfl rfl (by decide) ?_
        show zW _ _ _ _ _ _ _ _ _ _
        refine z_if_neT rfl (by decide) (by decide) ?_
        refine z_aload rfl rfl ?_
        refine z_getR (r := 83) rfl rfl (hRr _ rm_50_58 (by decide)) ?_
        refine z_iload rfl rfl ?_
        refine z_iald (v := (-6)) rfl rfl (by decide) (by decide) ((e83.trans (by rw [hso]; rfl))) ?_
        refine z_pushI (z := (-1)) rfl rfl ?_
        refine z_icmp_neT rfl (by decide) (by decide) (by decide) ?_
        refine z_aload rfl rfl ?_
        refine z_getR (r := 83) rfl rfl (hRr _ rm_50_58 (by decide)) ?_
        refine z_iload rfl rfl ?_
        refine z_iald (v := (-6)) rfl rfl (by decide) (by decide) ((e83.trans (by rw [hso]; rfl))) ?_
        refine z_if_ltT rfl (by decide) (by decide) ?_
        refine z_iload rfl rfl ?_
        refine z_pushI (z := 0) rfl rfl ?_
        refine z_aload rfl rfl ?_
        refine z_getR (r := 84) rfl rfl (hRr _ rm_50_59 (by decide)) ?_
        refine z_iload rfl rfl ?_
        refine z_iald (v := J 40 3) rfl rfl (by decide) (by decide) (s7) ?_
        refine z_pushI (z := 1) rfl rfl ?_
        refine z_isub (e := (J 40 3) - 1) rfl rfl ?_
        refine z_callSi (As := [_, _, _]) (le := [some _, some _, some _]) rfl rfl (Nat.le_of_ble_eq_true rfl) (Nat.le_of_ble_eq_true rfl) rfl ?_
        refine z_iload rfl rfl ?_
        refine z_iload rfl rfl ?_
        refine z_icmp_ltF rfl (by omega) (by decide) (by omega) ?_
        refine z_iload rfl rfl ?_
        refine z_iload rfl rfl ?_
        refine z_icmp_gtF rfl (by omega) (by omega) (by omega) ?_
        refine z_pushI (z := 1) rfl rfl ?_
        refine z_goto rfl ?_
        refine z_bret rfl rfl (by decide) ?_
        show zW _ _ _ _ _ _ _ _ _ _
        refine z_if_eqF rfl (by decide) (by decide) ?_
        refine z_pushI (z := 0) rfl rfl ?_
        refine z_goto rfl ?_
        refine z_iret rfl rfl ?_
        show zW _ _ _ _ _ _ _ _ _ _
        refine z_istore rfl rfl ?_
        refine z_iload rfl rfl ?_
        refine z_if_geT rfl (by decide) (by decide) ?_
        refine z_pushI (z := (-2)) rfl rfl ?_
        refine z_aload rfl rfl ?_
        refine z_getR (r := 83) rfl rfl (hRr _ rm_50_58 (by decide)) ?_
        refine z_iload rfl rfl ?_
        refine z_iald (v := (-6)) rfl rfl (by decide) (by decide) ((e83.trans (by rw [hso]; rfl))) ?_
        refine z_isub (e := 4) rfl rfl ?_
        refine z_istore rfl rfl ?_
        refine z_aload rfl rfl ?_
        refine z_getR (r := 85) rfl rfl (hRr _ rm_50_60 (by decide)) ?_
        refine z_pushI (z := 60) rfl rfl ?_
        refine z_iload rfl rfl ?_
        refine z_imul (e := 60) rfl rfl ?_
        refine z_iload rfl rfl ?_
        refine z_iadd (e := 60 + i) rfl rfl ?_
        refine z_iload rfl rfl ?_
        refine z_if_neT rfl (by decide) (by decide) ?_
        refine z_iload rfl rfl ?_
        refine z_pushI (z := 1) rfl rfl ?_
        refine z_icmp_neT rfl (by decide) (by decide) (by decide) ?_
        refine z_iload rfl rfl ?_
        refine z_pushI (z := 2) rfl rfl ?_
        refine z_icmp_neT rfl (by decide) (by decide) (by decide) ?_
        refine z_iload rfl rfl ?_
        refine z_pushI (z := 3) rfl rfl ?_
        refine z_icmp_neT rfl (by decide) (by decide) (by decide) ?_
        refine z_lload rfl rfl ?_
        refine z_pushL (z := 0) rfl rfl ?_
        refine z_lcmp_eq rfl rfl (by omega) (by omega) (fun h4 => ?_) (fun h4 => ?_)
        · refine z_pushL (z := 0) rfl rfl ?_
          refine z_last (e := 0) rfl rfl (by decide) (by omega) rfl ?_
          refine z_pushI (z := 1) rfl rfl ?_
          refine z_iret rfl rfl ?_
          refine ⟨?_, ?_⟩
          · first | rfl | exact congrArg (fun v => some (zi v)) (by omega) | (exfalso; omega)
          · have hk := (zK_r (k := (kL [] [])) (A := J))
            have hkm := (zK_x (a := 85) (x := 60 + i) (v := 0) (zK_x (a := 41) (x := i) (v := 0) (zK_r (k := (kL [41, 85] [])) (A := M)) rfl) rfl)
            exact ⟨hR, hG, RelY_k hk (by repeat' constructor) (fun p => by repeat' constructor) hY, RelD_k hk (by repeat' constructor) (fun p => by repeat' constructor) hD, RelP_k hk (by repeat' constructor) (fun p => by repeat' constructor) hP, RelC_k hk (by repeat' constructor) (fun p => by repeat' constructor) hC, RelA_k hk (by repeat' constructor) (fun p => by repeat' constructor) hAc, (RelS_one (J := J) (M := M) (c := 1) (fun t t1 t2 te => by have q : t = 0 ∨ t = 1 ∨ t = 2 ∨ t = 3 ∨ t = 4 ∨ t = 5 := (by omega); rcases q with rfl | rfl | rfl | rfl | rfl | rfl <;> first | exact absurd rfl te | exact ⟨fun j => rfl, rfl, rfl⟩) (fun t t1 t2 te => by have q : t = 0 ∨ t = 1 ∨ t = 2 ∨ t = 3 ∨ t = 4 ∨ t = 5 := (by omega); rcases q with rfl | rfl | rfl | rfl | rfl | rfl <;> first | exact absurd rfl te | exact ⟨fun j => rfl, fun j j1 j2 => (zU_x (by omega)).trans (zU_n (by decide))⟩) rfl (show RelS1 _ _ _ from ⟨(hS 1 (by decide) (by decide)).1, (hS 1 (by decide) (by decide)).2.1, s3, s4, (hS 1 (by decide) (by decide)).2.2.2.2.1, fun _ => ⟨s7.symm, fun k k1 k2 => by show (if k = i then 0 else M 41 k) = (if 60 + k = 60 + i then 0 else M 85 (60 + k)); by_cases e : k = i; rw [if_pos e, if_pos (by omega)]; rw [if_neg e, if_neg (by omega)]; exact s8 k k1 k2, (fun hq => absurd (Eq.trans (Eq.symm hq) hso) (by decide))⟩⟩) hS), RelT_k hk (by repeat' constructor) (fun p => by repeat' constructor) hTp, RelX_k hk (by repeat' constructor) (fun p => by repeat' constructor) hX, RelW_k hk ⟨rfl, rfl⟩ trivial hW⟩
        · refine z_pushL (z := 1) rfl rfl ?_
          refine z_goto rfl ?_
          refine z_last (e := 1) rfl rfl (by decide) (by omega) rfl ?_
          refine z_pushI (z := 1) rfl rfl ?_
          refine z_iret rfl rfl ?_
          refine ⟨?_, ?_⟩
          · first | rfl | exact congrArg (fun v => some (zi v)) (by omega) | (exfalso; omega)
          · exfalso
            omega
      · refine z_pushL (z := 1) rfl rfl ?_
        refine z_goto rfl ?_
        refine z_lret rfl rfl ?_
        show zW _ _ _ _ _ _ _ _ _ _
        refine z_last (e := 1) rfl rfl (by decide) (by omega) rfl ?_
        refine z_vret rfl rfl ?_
        show zW _ _ _ _ _ _ _ _ _ _
        refine z_pushI (z := 1) rfl rfl ?_
        refine z_iret rfl rfl ?_
        refine ⟨_, rfl, ?_⟩
        show zW _ _ _ _ [some (.ref 50), some (zi 1), some (zi i), some (zl v), none, none, none] _ _ _ _ _
        refine z_aload rfl rfl ?_
        refine z_iload rfl rfl ?_
        refine z_iload rfl rfl ?_
        refine z_callVi (As := [_, _]) (le := [some _, some _, some _]) rfl rfl rfl (Nat.le_of_ble_eq_true rfl) (Nat.le_of_ble_eq_true rfl) rfl ?_
        refine z_iload rfl rfl ?_
        refine z_callSi (As := [_]) (le := [some _]) rfl rfl (Nat.le_of_ble_eq_true rfl) (Nat.le_of_ble_eq_true rfl) rfl ?_
        refine z_iload rfl rfl ?_
        refine z_pushI (z := 0) rfl rfl ?_
        refine z_pushI (z := 5) rfl rfl ?_
        refine z_callSi (As := [_, _, _]) (le := [some _, some _, some _]) rfl rfl (Nat.le_of_ble_eq_true rfl) (Nat.le_of_ble_eq_true rfl) rfl ?_
        refine z_iload rfl rfl ?_
        refine z_iload rfl rfl ?_
        refine z_icmp_ltF rfl (by decide) (by decide) (by decide) ?_
        refine z_iload rfl rfl ?_
        refine z_iload rfl rfl ?_
        refine z_icmp_gtF rfl (by decide) (by decide) (by decide) ?_
        refine z_pushI (z := 1) rfl rfl ?_
        refine z_goto rfl ?_
        refine z_bret rfl rfl (by decide) ?_
        show zW _ _ _ _ _ _ _ _ _ _
        refine z_bret rfl rfl (by decide) ?_
        show zW _ _ _ _ _ _ _ _ _ _
        refine z_if_neT rfl (by decide) (by decide) ?_
        refine z_aload rfl rfl ?_
        refine z_getR (r := 83) rfl rfl (hRr _ rm_50_58 (by decide)) ?_
        refine z_iload rfl rfl ?_
        refine z_iald (v := (-6)) rfl rfl (by decide) (by decide) ((e83.trans (by rw [hso]; rfl))) ?_
        refine z_pushI (z := (-1)) rfl rfl ?_
        refine z_icmp_neT rfl (by decide) (by decide) (by decide) ?_
        refine z_aload rfl rfl ?_
        refine z_getR (r := 83) rfl rfl (hRr _ rm_50_58 (by decide)) ?_
        refine z_iload rfl rfl ?_
        refine z_iald (v := (-6)) rfl rfl (by decide) (by decide) ((e83.trans (by rw [hso]; rfl))) ?_
        refine z_if_ltT rfl (by decide) (by decide) ?_
        refine z_iload rfl rfl ?_
        refine z_pushI (z := 0) rfl rfl ?_
        refine z_aload rfl rfl ?_
        refine z_getR (r := 84) rfl rfl (hRr _ rm_50_59 (by decide)) ?_
        refine z_iload rfl rfl ?_
        refine z_iald (v := J 40 3) rfl rfl (by decide) (by decide) (s7) ?_
        refine z_pushI (z := 1) rfl rfl ?_
        refine z_isub (e := (J 40 3) - 1) rfl rfl ?_
        refine z_callSi (As := [_, _, _]) (le := [some _, some _, some _]) rfl rfl (Nat.le_of_ble_eq_true rfl) (Nat.le_of_ble_eq_true rfl) rfl ?_
        refine z_iload rfl rfl ?_
        refine z_iload rfl rfl ?_
        refine z_icmp_ltF rfl (by omega) (by decide) (by omega) ?_
        refine z_iload rfl rfl ?_
        refine z_iload rfl rfl ?_
        refine z_icmp_gtF rfl (by omega) (by omega) (by omega) ?_
        refine z_pushI (z := 1) rfl rfl ?_
        refine z_goto rfl ?_
        refine z_bret rfl rfl (by decide) ?_
        show zW _ _ _ _ _ _ _ _ _ _
        refine z_if_eqF rfl (by decide) (by decide) ?_
        refine z_pushI (z := 0) rfl rfl ?_
        refine z_goto rfl ?_
        refine z_iret rfl rfl ?_
        show zW _ _ _ _ _ _ _ _ _ _
        refine z_istore rfl rfl ?_
        refine z_iload rfl rfl ?_
        refine z_if_geT rfl (by decide) (by decide) ?_
        refine z_pushI (z := (-2)) rfl rfl ?_
        refine z_aload rfl rfl ?_
        refine z_getR (r := 83) rfl rfl (hRr _ rm_50_58 (by decide)) ?_
        refine z_iload rfl rfl ?_
        refine z_iald (v := (-6)) rfl rfl (by decide) (by decide) ((e83.trans (by rw [hso]; rfl))) ?_
        refine z_isub (e := 4) rfl rfl ?_
        refine z_istore rfl rfl ?_
        refine z_aload rfl rfl ?_
        refine z_getR (r := 85) rfl rfl (hRr _ rm_50_60 (by decide)) ?_
        refine z_pushI (z := 60) rfl rfl ?_
        refine z_iload rfl rfl ?_
        refine z_imul (e := 60) rfl rfl ?_
        refine z_iload rfl rfl ?_
        refine z_iadd (e := 60 + i) rfl rfl ?_
        refine z_iload rfl rfl ?_
        refine z_if_neT rfl (by decide) (by decide) ?_
        refine z_iload rfl rfl ?_
        refine z_pushI (z := 1) rfl rfl ?_
        refine z_icmp_neT rfl (by decide) (by decide) (by decide) ?_
        refine z_iload rfl rfl ?_
        refine z_pushI (z := 2) rfl rfl ?_
        refine z_icmp_neT rfl (by decide) (by decide) (by decide) ?_
        refine z_iload rfl rfl ?_
        refine z_pushI (z := 3) rfl rfl ?_
        refine z_icmp_neT rfl (by decide) (by decide) (by decide) ?_
        refine z_lload rfl rfl ?_
        refine z_pushL (z := 0) rfl rfl ?_
        refine z_lcmp_eq rfl rfl (by omega) (by omega) (fun h4 => ?_) (fun h4 => ?_)
        · refine z_pushL (z := 0) rfl rfl ?_
          refine z_last (e := 0) rfl rfl (by decide) (by omega) rfl ?_
          refine z_pushI (z := 1) rfl rfl ?_
          refine z_iret rfl rfl ?_
          refine ⟨?_, ?_⟩
          · first | rfl | exact congrArg (fun v => some (zi v)) (by omega) | (exfalso; omega)
          · exfalso
            omega
        · refine z_pushL (z := 1) rfl rfl ?_
          refine z_goto rfl ?_
          refine z_last (e := 1) rfl rfl (by decide) (by omega) rfl ?_
          refine z_pushI (z := 1) rfl rfl ?_
          refine z_iret rfl rfl ?_
          refine ⟨?_, ?_⟩
          · first | rfl | exact congrArg (fun v => some (zi v)) (by omega) | (exfalso; omega)
          · have hk := (zK_r (k := (kL [] [])) (A := J))
            have hkm := (zK_x (a := 85) (x := 60 + i) (v := 1) (zK_x (a := 41) (x := i) (v := 1) (zK_r (k := (kL [41, 85] [])) (A := M)) rfl) rfl)
            exact ⟨hR, hG, RelY_k hk (by repeat' constructor) (fun p => by repeat' constructor) hY, RelD_k hk (by repeat' constructor) (fun p => by repeat' constructor) hD, RelP_k hk (by repeat' constructor) (fun p => by repeat' constructor) hP, RelC_k hk (by repeat' constructor) (fun p => by repeat' constructor) hC, RelA_k hk (by repeat' constructor) (fun p => by repeat' constructor) hAc, (RelS_one (J := J) (M := M) (c := 1) (fun t t1 t2 te => by have q : t = 0 ∨ t = 1 ∨ t = 2 ∨ t = 3 ∨ t = 4 ∨ t = 5 := (by omega); rcases q with rfl | rfl | rfl | rfl | rfl | rfl <;> first | exact absurd rfl te | exact ⟨fun j => rfl, rfl, rfl⟩) (fun t t1 t2 te => by have q : t = 0 ∨ t = 1 ∨ t = 2 ∨ t = 3 ∨ t = 4 ∨ t = 5 := (by omega); rcases q with rfl | rfl | rfl | rfl | rfl | rfl <;> first | exact absurd rfl te | exact ⟨fun j => rfl, fun j j1 j2 => (zU_x (by omega)).trans (zU_n (by decide))⟩) rfl (show RelS1 _ _ _ from ⟨(hS 1 (by decide) (by decide)).1, (hS 1 (by decide) (by decide)).2.1, s3, s4, (hS 1 (by decide) (by decide)).2.2.2.2.1, fun _ => ⟨s7.symm, fun k k1 k2 => by show (if k = i then 1 else M 41 k) = (if 60 + k = 60 + i then 1 else M 85 (60 + k)); by_cases e : k = i; rw [if_pos e, if_pos (by omega)]; rw [if_neg e, if_neg (by omega)]; exact s8 k k1 k2, (fun hq => absurd (Eq.trans (Eq.symm hq) hso) (by decide))⟩⟩) hS), RelT_k hk (by repeat' constructor) (fun p => by repeat' constructor) hTp, RelX_k hk (by repeat' constructor) (fun p => by repeat' constructor) hX, RelW_k hk ⟨rfl, rfl⟩ trivial hW⟩
theorem st_element_20 {X : Nat × (Nat → Int32)} {d : Nat} {J M : zA} {R : zR} {i : Int} (hr : Rel X J M R) (hi : -2147483648 ≤ i ∧ i < 2147483648) (hh : J 42 0 = 0) : zW X (d + 20) 139 0 (gEn 139 [(.ref 0), (zi 2), (zi i)]) [] J M R (stL X (d + 20) 253 [(zi 2), (zi i)]) := by
  have hr0 := hr
  obtain ⟨hR, hG, hY, hD, hP, hC, hAc, hS, hTp, hX, hW⟩ := hr0
  have hRr : zRoR R := zRoR_of hR
  have hA0 := hAc
  obtain ⟨a1, a2, a3, a4, a5, a6⟩ := hA0
  have e83 : J 83 2 = -1 := (hS 2 (by decide) (by decide)).1.symm.trans (cH_0 hh)
  have s3 : 0 ≤ J 42 2 ∧ J 42 2 ≤ 4 := (hS 2 (by decide) (by decide)).2.2.1
  have s4 : 0 ≤ J 42 3 ∧ J 42 3 ≤ 60 := (hS 2 (by decide) (by decide)).2.2.2.1
  show zW _ _ _ _ [some (.ref 0), some (zi 2), some (zi i)] _ _ _ _ _
  refine z_iload rfl rfl ?_
  refine z_callSi (As := [_]) (le := [some _]) rfl rfl (Nat.le_of_ble_eq_true rfl) (Nat.le_of_ble_eq_true rfl) rfl ?_
  refine z_iload rfl rfl ?_
  refine z_if_ltF rfl (by decide) (by decide) ?_
  refine z_iload rfl rfl ?_
  refine z_pushI (z := 6) rfl rfl ?_
  refine z_icmp_geF rfl (by decide) (by decide) (by decide) ?_
  refine z_pushI (z := 1) rfl rfl ?_
  refine z_goto rfl ?_
  refine z_bret rfl rfl (by decide) ?_
  show zW _ _ _ _ _ _ _ _ _ _
  refine z_if_eqF rfl (by decide) (by decide) ?_
  refine z_aload rfl rfl ?_
  refine z_getR (r := 37) rfl rfl (hR _ rm_0_11) ?_
  refine z_iload rfl rfl ?_
  refine z_aald (r := 42) rfl rfl (by decide) (by decide) (hR _ rm_37_2) ?_
  refine z_iload rfl rfl ?_
  refine z_callVi (As := [_]) (le := [some _, some _]) rfl rfl rfl (Nat.le_of_ble_eq_true rfl) (Nat.le_of_ble_eq_true rfl) rfl ?_
  refine z_aload rfl rfl ?_
  refine z_getI (v := 0) rfl rfl (hh) ?_
  refine z_if_neF rfl (by decide) (by decide) ?_
  refine z_pushI (z := (-11)) rfl rfl ?_
  refine z_iret rfl rfl ?_
  show zW _ _ _ _ _ _ _ _ _ _
  refine z_if_geF rfl (by decide) (by decide) ?_
  refine z_pushL (z := (-9223372036854775808)) rfl rfl ?_
  refine z_lret rfl rfl ?_
  refine ⟨_, rfl, ?_⟩
  show zW _ _ _ _ [some (.ref 50), some (zi 2), some (zi i)] _ _ _ _ _
  refine z_aload rfl rfl ?_
  refine z_iload rfl rfl ?_
  refine z_iload rfl rfl ?_
  refine z_callVi (As := [_, _]) (le := [some _, some _, some _]) rfl rfl rfl (Nat.le_of_ble_eq_true rfl) (Nat.le_of_ble_eq_true rfl) rfl ?_
  refine z_iload rfl rfl ?_
  refine z_callSi (As := [_]) (le := [some _]) rfl rfl (Nat.le_of_ble_eq_true rfl) (Nat.le_of_ble_eq_true rfl) rfl ?_
  refine z_iload rfl rfl ?_
  refine z_pushI (z := 0) rfl rfl ?_
  refine z_pushI (z := 5) rfl rfl ?_
  refine z_callSi (As := [_, _, _]) (le := [some _, some _, some _]) rfl rfl (Nat.le_of_ble_eq_true rfl) (Nat.le_of_ble_eq_true rfl) rfl ?_
  refine z_iload rfl rfl ?_
  refine z_iload rfl rfl ?_
  refine z_icmp_ltF rfl (by decide) (by decide) (by decide) ?_
  refine z_iload rfl rfl ?_
  refine z_iload rfl rfl ?_
  refine z_icmp_gtF rfl (by decide) (by decide) (by decide) ?_
  refine z_pushI (z := 1) rfl rfl ?_
  refine z_goto rfl ?_
  refine z_bret rfl rfl (by decide) ?_
  show zW _ _ _ _ _ _ _ _ _ _
  refine z_bret rfl rfl (by decide) ?_
  show zW _ _ _ _ _ _ _ _ _ _
  refine z_if_neT rfl (by decide) (by decide) ?_
  refine z_aload rfl rfl ?_
  refine z_getR (r := 83) rfl rfl (hRr _ rm_50_58 (by decide)) ?_
  refine z_iload rfl rfl ?_
  refine z_iald (v := (-1)) rfl rfl (by decide) (by decide) (e83) ?_
  refine z_pushI (z := (-1)) rfl rfl ?_
  refine z_icmp_neF rfl (by decide) (by decide) (by decide) ?_
  refine z_pushI (z := (-11)) rfl rfl ?_
  refine z_iret rfl rfl ?_
  show zW _ _ _ _ _ _ _ _ _ _
  refine z_if_geF rfl (by decide) (by decide) ?_
  refine z_pushL (z := (-9223372036854775808)) rfl rfl ?_
  refine z_goto rfl ?_
  refine z_lret rfl rfl ?_
  refine ⟨?_, ?_⟩
  · first | rfl | exact congrArg (fun v => some (zl v)) (by omega) | (exfalso; omega)
  · exact hr
theorem st_put_20 {X : Nat × (Nat → Int32)} {d : Nat} {J M : zA} {R : zR} {i v : Int} (hr : Rel X J M R) (hi : -2147483648 ≤ i ∧ i < 2147483648) (hv : -9223372036854775808 ≤ v ∧ v < 9223372036854775808) (hh : J 42 0 = 0) : zW X (d + 20) 138 0 (gEn 138 [(.ref 0), (zi 2), (zi i), (zl v)]) [] J M R (stP X (d + 20) 252 [(zi 2), (zi i), (zl v)]) := by
  have hr0 := hr
  obtain ⟨hR, hG, hY, hD, hP, hC, hAc, hS, hTp, hX, hW⟩ := hr0
  have hRr : zRoR R := zRoR_of hR
  have hA0 := hAc
  obtain ⟨a1, a2, a3, a4, a5, a6⟩ := hA0
  have e83 : J 83 2 = -1 := (hS 2 (by decide) (by decide)).1.symm.trans (cH_0 hh)
  have s3 : 0 ≤ J 42 2 ∧ J 42 2 ≤ 4 := (hS 2 (by decide) (by decide)).2.2.1
  have s4 : 0 ≤ J 42 3 ∧ J 42 3 ≤ 60 := (hS 2 (by decide) (by decide)).2.2.2.1
  show zW _ _ _ _ [some (.ref 0), some (zi 2), some (zi i), some (zl v), none, none] _ _ _ _ _
  refine z_iload rfl rfl ?_
  refine z_callSi (As := [_]) (le := [some _]) rfl rfl (Nat.le_of_ble_eq_true rfl) (Nat.le_of_ble_eq_true rfl) rfl ?_
  refine z_iload rfl rfl ?_
  refine z_if_ltF rfl (by decide) (by decide) ?_
  refine z_iload rfl rfl ?_
  refine z_pushI (z := 6) rfl rfl ?_
  refine z_icmp_geF rfl (by decide) (by decide) (by decide) ?_
  refine z_pushI (z := 1) rfl rfl ?_
  refine z_goto rfl ?_
  refine z_bret rfl rfl (by decide) ?_
  show zW _ _ _ _ _ _ _ _ _ _
  refine z_if_neT rfl (by decide) (by decide) ?_
  refine z_aload rfl rfl ?_
  refine z_getR (r := 37) rfl rfl (hR _ rm_0_11) ?_
  refine z_iload rfl rfl ?_
  refine z_aald (r := 42) rfl rfl (by decide) (by decide) (hR _ rm_37_2) ?_
  refine z_iload rfl rfl ?_
  refine z_callVi (As := [_]) (le := [some _, some _]) rfl rfl rfl (Nat.le_of_ble_eq_true rfl) (Nat.le_of_ble_eq_true rfl) rfl ?_
  refine z_aload rfl rfl ?_
  refine z_getI (v := 0) rfl rfl (hh) ?_
  refine z_if_neF rfl (by decide) (by decide) ?_
  refine z_pushI (z := (-11)) rfl rfl ?_
  refine z_iret rfl rfl ?_
  show zW _ _ _ _ _ _ _ _ _ _
  refine z_istore rfl rfl ?_
  refine z_iload rfl rfl ?_
  refine z_if_geF rfl (by decide) (by decide) ?_
  refine z_iload rfl rfl ?_
  refine z_iret rfl rfl ?_
  refine ⟨_, rfl, ?_⟩
  show zW _ _ _ _ [some (.ref 50), some (zi 2), some (zi i), some (zl v), none, none, none] _ _ _ _ _
  refine z_aload rfl rfl ?_
  refine z_iload rfl rfl ?_
  refine z_iload rfl rfl ?_
  refine z_callVi (As := [_, _]) (le := [some _, some _, some _]) rfl rfl rfl (Nat.le_of_ble_eq_true rfl) (Nat.le_of_ble_eq_true rfl) rfl ?_
  refine z_iload rfl rfl ?_
  refine z_callSi (As := [_]) (le := [some _]) rfl rfl (Nat.le_of_ble_eq_true rfl) (Nat.le_of_ble_eq_true rfl) rfl ?_
  refine z_iload rfl rfl ?_
  refine z_pushI (z := 0) rfl rfl ?_
  refine z_pushI (z := 5) rfl rfl ?_
  refine z_callSi (As := [_, _, _]) (le := [some _, some _, some _]) rfl rfl (Nat.le_of_ble_eq_true rfl) (Nat.le_of_ble_eq_true rfl) rfl ?_
  refine z_iload rfl rfl ?_
  refine z_iload rfl rfl ?_
  refine z_icmp_ltF rfl (by decide) (by decide) (by decide) ?_
  refine z_iload rfl rfl ?_
  refine z_iload rfl rfl ?_
  refine z_icmp_gtF rfl (by decide) (by decide) (by decide) ?_
  refine z_pushI (z := 1) rfl rfl ?_
  refine z_goto rfl ?_
  refine z_bret rfl rfl (by decide) ?_
  show zW _ _ _ _ _ _ _ _ _ _
  refine z_bret rfl rfl (by decide) ?_
  show zW _ _ _ _ _ _ _ _ _ _
  refine z_if_neT rfl (by decide) (by decide) ?_
  refine z_aload rfl rfl ?_
  refine z_getR (r := 83) rfl rfl (hRr _ rm_50_58 (by decide)) ?_
  refine z_iload rfl rfl ?_
  refine z_iald (v := (-1)) rfl rfl (by decide) (by decide) (e83) ?_
  refine z_pushI (z := (-1)) rfl rfl ?_
  refine z_icmp_neF rfl (by decide) (by decide) (by decide) ?_
  refine z_pushI (z := (-11)) rfl rfl ?_
  refine z_iret rfl rfl ?_
  show zW _ _ _ _ _ _ _ _ _ _
  refine z_istore rfl rfl ?_
  refine z_iload rfl rfl ?_
  refine z_if_geF rfl (by decide) (by decide) ?_
  refine z_iload rfl rfl ?_
  refine z_iret rfl rfl ?_
  refine ⟨?_, ?_⟩
  · first | rfl | exact congrArg (fun v => some (zi v)) (by omega) | (exfalso; omega)
  · exact hr
theorem st_element_21 {X : Nat × (Nat → Int32)} {d : Nat} {J M : zA} {R : zR} {i : Int} (hr : Rel X J M R) (hi : -2147483648 ≤ i ∧ i < 2147483648) (hh : J 42 0 = 1) : zW X (d + 20) 139 0 (gEn 139 [(.ref 0), (zi 2), (zi i)]) [] J M R (stL X (d + 20) 253 [(zi 2), (zi i)]) := by
  have hr0 := hr
  obtain ⟨hR, hG, hY, hD, hP, hC, hAc, hS, hTp, hX, hW⟩ := hr0
  have hRr : zRoR R := zRoR_of hR
  have hA0 := hAc
  obtain ⟨a1, a2, a3, a4, a5, a6⟩ := hA0
  have e83 : J 83 2 = J 42 1 := (hS 2 (by decide) (by decide)).1.symm.trans (cH_1 hh)
  have s3 : 0 ≤ J 42 2 ∧ J 42 2 ≤ 4 := (hS 2 (by decide) (by decide)).2.2.1
  have s4 : 0 ≤ J 42 3 ∧ J 42 3 ≤ 60 := (hS 2 (by decide) (by decide)).2.2.2.1
  have s5 : 0 ≤ J 42 1 ∧ J 42 1 < J 34 1 := (hS 2 (by decide) (by decide)).2.2.2.2.1 hh
  show zW _ _ _ _ [some (.ref 0), some (zi 2), some (zi i)] _ _ _ _ _
  refine z_iload rfl rfl ?_
  refine z_callSi (As := [_]) (le := [some _]) rfl rfl (Nat.le_of_ble_eq_true rfl) (Nat.le_of_ble_eq_true rfl) rfl ?_
  refine z_iload rfl rfl ?_
  refine z_if_ltF rfl (by decide) (by decide) ?_
  refine z_iload rfl rfl ?_
  refine z_pushI (z := 6) rfl rfl ?_
  refine z_icmp_geF rfl (by decide) (by decide) (by decide) ?_
  refine z_pushI (z := 1) rfl rfl ?_
  refine z_goto rfl ?_
  refine z_bret rfl rfl (by decide) ?_
  show zW _ _ _ _ _ _ _ _ _ _
  refine z_if_eqF rfl (by decide) (by decide) ?_
  refine z_aload rfl rfl ?_
  refine z_getR (r := 37) rfl rfl (hR _ rm_0_11) ?_
  refine z_iload rfl rfl ?_
  refine z_aald (r := 42) rfl rfl (by decide) (by decide) (hR _ rm_37_2) ?_
  refine z_iload rfl rfl ?_
  refine z_callVi (As := [_]) (le := [some _, some _]) rfl rfl rfl (Nat.le_of_ble_eq_true rfl) (Nat.le_of_ble_eq_true rfl) rfl ?_
  refine z_aload rfl rfl ?_
  refine z_getI (v := 1) rfl rfl (hh) ?_
  refine z_if_neT rfl (by decide) (by decide) ?_
  refine z_aload rfl rfl ?_
  refine z_getI (v := 1) rfl rfl (hh) ?_
  refine z_pushI (z := 2) rfl rfl ?_
  refine z_icmp_eqF rfl (by decide) (by decide) (by decide) ?_
  refine z_pushI (z := (-12)) rfl rfl ?_
  refine z_iret rfl rfl ?_
  show zW _ _ _ _ _ _ _ _ _ _
  refine z_if_geF rfl (by decide) (by decide) ?_
  refine z_pushL (z := (-9223372036854775808)) rfl rfl ?_
  refine z_lret rfl rfl ?_
  refine ⟨_, rfl, ?_⟩
  show zW _ _ _ _ [some (.ref 50), some (zi 2), some (zi i)] _ _ _ _ _
  refine z_aload rfl rfl ?_
  refine z_iload rfl rfl ?_
  refine z_iload rfl rfl ?_
  refine z_callVi (As := [_, _]) (le := [some _, some _, some _]) rfl rfl rfl (Nat.le_of_ble_eq_true rfl) (Nat.le_of_ble_eq_true rfl) rfl ?_
  refine z_iload rfl rfl ?_
  refine z_callSi (As := [_]) (le := [some _]) rfl rfl (Nat.le_of_ble_eq_true rfl) (Nat.le_of_ble_eq_true rfl) rfl ?_
  refine z_iload rfl rfl ?_
  refine z_pushI (z := 0) rfl rfl ?_
  refine z_pushI (z := 5) rfl rfl ?_
  refine z_callSi (As := [_, _, _]) (le := [some _, some _, some _]) rfl rfl (Nat.le_of_ble_eq_true rfl) (Nat.le_of_ble_eq_true rfl) rfl ?_
  refine z_iload rfl rfl ?_
  refine z_iload rfl rfl ?_
  refine z_icmp_ltF rfl (by decide) (by decide) (by decide) ?_
  refine z_iload rfl rfl ?_
  refine z_iload rfl rfl ?_
  refine z_icmp_gtF rfl (by decide) (by decide) (by decide) ?_
  refine z_pushI (z := 1) rfl rfl ?_
  refine z_goto rfl ?_
  refine z_bret rfl rfl (by decide) ?_
  show zW _ _ _ _ _ _ _ _ _ _
  refine z_bret rfl rfl (by decide) ?_
  show zW _ _ _ _ _ _ _ _ _ _
  refine z_if_neT rfl (by decide) (by decide) ?_
  refine z_aload rfl rfl ?_
  refine z_getR (r := 83) rfl rfl (hRr _ rm_50_58 (by decide)) ?_
  refine z_iload rfl rfl ?_
  refine z_iald (v := J 42 1) rfl rfl (by decide) (by decide) (e83) ?_
  refine z_pushI (z := (-1)) rfl rfl ?_
  refine z_icmp_ne rfl (by omega) (by decide) (fun h1 => ?_) (fun h1 => ?_)
  · refine z_aload rfl rfl ?_
    refine z_getR (r := 83) rfl rfl (hRr _ rm_50_58 (by decide)) ?_
    refine z_iload rfl rfl ?_
    refine z_iald (v := J 42 1) rfl rfl (by decide) (by decide) (e83) ?_
    refine z_if_lt rfl (by omega) (fun h2 => ?_) (fun h2 => ?_)
    · refine z_iload rfl rfl ?_
      refine z_pushI (z := 0) rfl rfl ?_
      refine z_aload rfl rfl ?_
      refine z_getR (r := 84) rfl rfl (hRr _ rm_50_59 (by decide)) ?_
      refine z_iload rfl rfl ?_
      refine z_iald (v := J 84 2) rfl rfl (by decide) (by decide) (rfl) ?_
      refine z_pushI (z := 1) rfl rfl ?_
      refine z_isub (e := (J 84 2) - 1) rfl rfl ?_
      refine z_callSi (As := [_, _, _]) (le := [some _, some _, some _]) rfl rfl (Nat.le_of_ble_eq_true rfl) (Nat.le_of_ble_eq_true rfl) rfl ?_
      refine z_iload rfl rfl ?_
      refine z_iload rfl rfl ?_
      refine z_icmp_lt rfl (by omega) (by decide) (fun h3 => ?_) (fun h3 => ?_)
      · refine z_pushI (z := 0) rfl rfl ?_
        refine z_bret rfl rfl (by decide) ?_
        show zW _ _ _ _ _ _ _ _ _ _
        refine z_if_eqT rfl (by decide) (by decide) ?_
        refine z_pushI (z := (-13)) rfl rfl ?_
        refine z_iret rfl rfl ?_
        show zW _ _ _ _ _ _ _ _ _ _
        refine z_if_geF rfl (by decide) (by decide) ?_
        refine z_pushL (z := (-9223372036854775808)) rfl rfl ?_
        refine z_goto rfl ?_
        refine z_lret rfl rfl ?_
        refine ⟨?_, ?_⟩
        · first | rfl | exact congrArg (fun v => some (zl v)) (by omega) | (exfalso; omega)
        · exact hr
      · refine z_iload rfl rfl ?_
        refine z_iload rfl rfl ?_
        refine z_icmp_gt rfl (by omega) (by omega) (fun h4 => ?_) (fun h4 => ?_)
        · refine z_pushI (z := 0) rfl rfl ?_
          refine z_bret rfl rfl (by decide) ?_
          show zW _ _ _ _ _ _ _ _ _ _
          refine z_if_eqT rfl (by decide) (by decide) ?_
          refine z_pushI (z := (-13)) rfl rfl ?_
          refine z_iret rfl rfl ?_
          show zW _ _ _ _ _ _ _ _ _ _
          refine z_if_geF rfl (by decide) (by decide) ?_
          refine z_pushL (z := (-9223372036854775808)) rfl rfl ?_
          refine z_goto rfl ?_
          refine z_lret rfl rfl ?_
          refine ⟨?_, ?_⟩
          · first | rfl | exact congrArg (fun v => some (zl v)) (by omega) | (exfalso; omega)
          · exact hr
        · refine z_pushI (z := 1) rfl rfl ?_
          refine z_goto rfl ?_
          refine z_bret rfl rfl (by decide) ?_
          show zW _ _ _ _ _ _ _ _ _ _
          refine z_if_eqF rfl (by decide) (by decide) ?_
          refine z_pushI (z := 0) rfl rfl ?_
          refine z_goto rfl ?_
          refine z_iret rfl rfl ?_
          show zW _ _ _ _ _ _ _ _ _ _
          refine z_if_geT rfl (by decide) (by decide) ?_
          refine z_aload rfl rfl ?_
          refine z_getR (r := 85) rfl rfl (hRr _ rm_50_60 (by decide)) ?_
          refine z_pushI (z := 60) rfl rfl ?_
          refine z_iload rfl rfl ?_
          refine z_imul (e := 120) rfl rfl ?_
          refine z_iload rfl rfl ?_
          refine z_iadd (e := 120 + i) rfl rfl ?_
          refine z_lald (v := M 85 (120 + i)) rfl rfl (by decide) (by omega) (rfl) ?_
          refine z_lret rfl rfl ?_
          refine ⟨?_, ?_⟩
          · first | rfl | exact congrArg (fun v => some (zl v)) (by omega) | (exfalso; omega)
          · exact hr
    · refine z_pushI (z := (-12)) rfl rfl ?_
      refine z_iret rfl rfl ?_
      show zW _ _ _ _ _ _ _ _ _ _
      refine z_if_geF rfl (by decide) (by decide) ?_
      refine z_pushL (z := (-9223372036854775808)) rfl rfl ?_
      refine z_goto rfl ?_
      refine z_lret rfl rfl ?_
      refine ⟨?_, ?_⟩
      · first | rfl | exact congrArg (fun v => some (zl v)) (by omega) | (exfalso; omega)
      · exact hr
  · refine z_pushI (z := (-11)) rfl rfl ?_
    refine z_iret rfl rfl ?_
    show zW _ _ _ _ _ _ _ _ _ _
    refine z_if_geF rfl (by decide) (by decide) ?_
    refine z_pushL (z := (-9223372036854775808)) rfl rfl ?_
    refine z_goto rfl ?_
    refine z_lret rfl rfl ?_
    refine ⟨?_, ?_⟩
    · first | rfl | exact congrArg (fun v => some (zl v)) (by omega) | (exfalso; omega)
    · exact hr
theorem st_put_21 {X : Nat × (Nat → Int32)} {d : Nat} {J M : zA} {R : zR} {i v : Int} (hr : Rel X J M R) (hi : -2147483648 ≤ i ∧ i < 2147483648) (hv : -9223372036854775808 ≤ v ∧ v < 9223372036854775808) (hh : J 42 0 = 1) : zW X (d + 20) 138 0 (gEn 138 [(.ref 0), (zi 2), (zi i), (zl v)]) [] J M R (stP X (d + 20) 252 [(zi 2), (zi i), (zl v)]) := by
  have hr0 := hr
  obtain ⟨hR, hG, hY, hD, hP, hC, hAc, hS, hTp, hX, hW⟩ := hr0
  have hRr : zRoR R := zRoR_of hR
  have hA0 := hAc
  obtain ⟨a1, a2, a3, a4, a5, a6⟩ := hA0
  have e83 : J 83 2 = J 42 1 := (hS 2 (by decide) (by decide)).1.symm.trans (cH_1 hh)
  have s3 : 0 ≤ J 42 2 ∧ J 42 2 ≤ 4 := (hS 2 (by decide) (by decide)).2.2.1
  have s4 : 0 ≤ J 42 3 ∧ J 42 3 ≤ 60 := (hS 2 (by decide) (by decide)).2.2.2.1
  have s5 : 0 ≤ J 42 1 ∧ J 42 1 < J 34 1 := (hS 2 (by decide) (by decide)).2.2.2.2.1 hh
  show zW _ _ _ _ [some (.ref 0), some (zi 2), some (zi i), some (zl v), none, none] _ _ _ _ _
  refine z_iload rfl rfl ?_
  refine z_callSi (As := [_]) (le := [some _]) rfl rfl (Nat.le_of_ble_eq_true rfl) (Nat.le_of_ble_eq_true rfl) rfl ?_
  refine z_iload rfl rfl ?_
  refine z_if_ltF rfl (by decide) (by decide) ?_
  refine z_iload rfl rfl ?_
  refine z_pushI (z := 6) rfl rfl ?_
  refine z_icmp_geF rfl (by decide) (by decide) (by decide) ?_
  refine z_pushI (z := 1) rfl rfl ?_
  refine z_goto rfl ?_
  refine z_bret rfl rfl (by decide) ?_
  show zW _ _ _ _ _ _ _ _ _ _
  refine z_if_neT rfl (by decide) (by decide) ?_
  refine z_aload rfl rfl ?_
  refine z_getR (r := 37) rfl rfl (hR _ rm_0_11) ?_
  refine z_iload rfl rfl ?_
  refine z_aald (r := 42) rfl rfl (by decide) (by decide) (hR _ rm_37_2) ?_
  refine z_iload rfl rfl ?_
  refine z_callVi (As := [_]) (le := [some _, some _]) rfl rfl rfl (Nat.le_of_ble_eq_true rfl) (Nat.le_of_ble_eq_true rfl) rfl ?_
  refine z_aload rfl rfl ?_
  refine z_getI (v := 1) rfl rfl (hh) ?_
  refine z_if_neT rfl (by decide) (by decide) ?_
  refine z_aload rfl rfl ?_
  refine z_getI (v := 1) rfl rfl (hh) ?_
  refine z_pushI (z := 2) rfl rfl ?_
  refine z_icmp_eqF rfl (by decide) (by decide) (by decide) ?_
  refine z_pushI (z := (-12)) rfl rfl ?_
  refine z_iret rfl rfl ?_
  show zW _ _ _ _ _ _ _ _ _ _
  refine z_istore rfl rfl ?_
  refine z_iload rfl rfl ?_
  refine z_if_geF rfl (by decide) (by decide) ?_
  refine z_iload rfl rfl ?_
  refine z_iret rfl rfl ?_
  refine ⟨_, rfl, ?_⟩
  show zW _ _ _ _ [some (.ref 50), some (zi 2), some (zi i), some (zl v), none, none, none] _ _ _ _ _
  refine z_aload rfl rfl ?_
  refine z_iload rfl rfl ?_
  refine z_iload rfl rfl ?_
  refine z_callVi (As := [_, _]) (le := [some _, some _, some _]) rfl rfl rfl (Nat.le_of_ble_eq_true rfl) (Nat.le_of_ble_eq_true rfl) rfl ?_
  refine z_iload rfl rfl ?_
  refine z_callSi (As := [_]) (le := [some _]) rfl rfl (Nat.le_of_ble_eq_true rfl) (Nat.le_of_ble_eq_true rfl) rfl ?_
  refine z_iload rfl rfl ?_
  refine z_pushI (z := 0) rfl rfl ?_
  refine z_pushI (z := 5) rfl rfl ?_
  refine z_callSi (As := [_, _, _]) (le := [some _, some _, some _]) rfl rfl (Nat.le_of_ble_eq_true rfl) (Nat.le_of_ble_eq_true rfl) rfl ?_
  refine z_iload rfl rfl ?_
  refine z_iload rfl rfl ?_
  refine z_icmp_ltF rfl (by decide) (by decide) (by decide) ?_
  refine z_iload rfl rfl ?_
  refine z_iload rfl rfl ?_
  refine z_icmp_gtF rfl (by decide) (by decide) (by decide) ?_
  refine z_pushI (z := 1) rfl rfl ?_
  refine z_goto rfl ?_
  refine z_bret rfl rfl (by decide) ?_
  show zW _ _ _ _ _ _ _ _ _ _
  refine z_bret rfl rfl (by decide) ?_
  show zW _ _ _ _ _ _ _ _ _ _
  refine z_if_neT rfl (by decide) (by decide) ?_
  refine z_aload rfl rfl ?_
  refine z_getR (r := 83) rfl rfl (hRr _ rm_50_58 (by decide)) ?_
  refine z_iload rfl rfl ?_
  refine z_iald (v := J 42 1) rfl rfl (by decide) (by decide) (e83) ?_
  refine z_pushI (z := (-1)) rfl rfl ?_
  refine z_icmp_ne rfl (by omega) (by decide) (fun h1 => ?_) (fun h1 => ?_)
  · refine z_aload rfl rfl ?_
    refine z_getR (r := 83) rfl rfl (hRr _ rm_50_58 (by decide)) ?_
    refine z_iload rfl rfl ?_
    refine z_iald (v := J 42 1) rfl rfl (by decide) (by decide) (e83) ?_
    refine z_if_lt rfl (by omega) (fun h2 => ?_) (fun h2 => ?_)
    · refine z_iload rfl rfl ?_
      refine z_pushI (z := 0) rfl rfl ?_
      refine z_aload rfl rfl ?_
      refine z_getR (r := 84) rfl rfl (hRr _ rm_50_59 (by decide)) ?_
      refine z_iload rfl rfl ?_
      refine z_iald (v := J 84 2) rfl rfl (by decide) (by decide) (rfl) ?_
      refine z_pushI (z := 1) rfl rfl ?_
      refine z_isub (e := (J 84 2) - 1) rfl rfl ?_
      refine z_callSi (As := [_, _, _]) (le := [some _, some _, some _]) rfl rfl (Nat.le_of_ble_eq_true rfl) (Nat.le_of_ble_eq_true rfl) rfl ?_
      refine z_iload rfl rfl ?_
      refine z_iload rfl rfl ?_
      refine z_icmp_lt rfl (by omega) (by decide) (fun h3 => ?_) (fun h3 => ?_)
      · refine z_pushI (z := 0) rfl rfl ?_
        refine z_bret rfl rfl (by decide) ?_
        show zW _ _ _ _ _ _ _ _ _ _
        refine z_if_eqT rfl (by decide) (by decide) ?_
        refine z_pushI (z := (-13)) rfl rfl ?_
        refine z_iret rfl rfl ?_
        show zW _ _ _ _ _ _ _ _ _ _
        refine z_istore rfl rfl ?_
        refine z_iload rfl rfl ?_
        refine z_if_geF rfl (by decide) (by decide) ?_
        refine z_iload rfl rfl ?_
        refine z_iret rfl rfl ?_
        refine ⟨?_, ?_⟩
        · first | rfl | exact congrArg (fun v => some (zi v)) (by omega) | (exfalso; omega)
        · exact hr
      · refine z_iload rfl rfl ?_
        refine z_iload rfl rfl ?_
        refine z_icmp_gt rfl (by omega) (by omega) (fun h4 => ?_) (fun h4 => ?_)
        · refine z_pushI (z := 0) rfl rfl ?_
          refine z_bret rfl rfl (by decide) ?_
          show zW _ _ _ _ _ _ _ _ _ _
          refine z_if_eqT rfl (by decide) (by decide) ?_
          refine z_pushI (z := (-13)) rfl rfl ?_
          refine z_iret rfl rfl ?_
          show zW _ _ _ _ _ _ _ _ _ _
          refine z_istore rfl rfl ?_
          refine z_iload rfl rfl ?_
          refine z_if_geF rfl (by decide) (by decide) ?_
          refine z_iload rfl rfl ?_
          refine z_iret rfl rfl ?_
          refine ⟨?_, ?_⟩
          · first | rfl | exact congrArg (fun v => some (zi v)) (by omega) | (exfalso; omega)
          · exact hr
        · refine z_pushI (z := 1) rfl rfl ?_
          refine z_goto rfl ?_
          refine z_bret rfl rfl (by decide) ?_
          show zW _ _ _ _ _ _ _ _ _ _
          refine z_if_eqF rfl (by decide) (by decide) ?_
          refine z_pushI (z := 0) rfl rfl ?_
          refine z_goto rfl ?_
          refine z_iret rfl rfl ?_
          show zW _ _ _ _ _ _ _ _ _ _
          refine z_istore rfl rfl ?_
          refine z_iload rfl rfl ?_
          refine z_if_geT rfl (by decide) (by decide) ?_
          refine z_pushI (z := (-2)) rfl rfl ?_
          refine z_aload rfl rfl ?_
          refine z_getR (r := 83) rfl rfl (hRr _ rm_50_58 (by decide)) ?_
          refine z_iload rfl rfl ?_
          refine z_iald (v := J 42 1) rfl rfl (by decide) (by decide) (e83) ?_
          refine z_isub (e := (-2) - (J 42 1)) rfl rfl ?_
          refine z_istore rfl rfl ?_
          refine z_aload rfl rfl ?_
          refine z_getR (r := 85) rfl rfl (hRr _ rm_50_60 (by decide)) ?_
          refine z_pushI (z := 60) rfl rfl ?_
          refine z_iload rfl rfl ?_
          refine z_imul (e := 120) rfl rfl ?_
          refine z_iload rfl rfl ?_
          refine z_iadd (e := 120 + i) rfl rfl ?_
          refine z_iload rfl rfl ?_
          refine z_if_ne rfl (by omega) (fun h5 => ?_) (fun h5 => ?_)
          · refine z_iload rfl rfl ?_
            refine z_pushI (z := 1) rfl rfl ?_
            refine z_icmp_ne rfl (by omega) (by decide) (fun h6 => ?_) (fun h6 => ?_)
            · refine z_iload rfl rfl ?_
              refine z_pushI (z := 2) rfl rfl ?_
              refine z_icmp_ne rfl (by omega) (by decide) (fun h7 => ?_) (fun h7 => ?_)
              · refine z_iload rfl rfl ?_
                refine z_pushI (z := 3) rfl rfl ?_
                refine z_icmp_ne rfl (by omega) (by decide) (fun h8 => ?_) (fun h8 => ?_)
                · refine z_lload rfl rfl ?_
                  refine z_pushL (z := 0) rfl rfl ?_
                  refine z_lcmp_eq rfl rfl (by omega) (by omega) (fun h9 => ?_) (fun h9 => ?_)
                  · refine z_pushL (z := 0) rfl rfl ?_
                    refine z_last (e := 0) rfl rfl (by decide) (by omega) rfl ?_
                    refine z_pushI (z := 1) rfl rfl ?_
                    refine z_iret rfl rfl ?_
                    refine ⟨?_, ?_⟩
                    · first | rfl | exact congrArg (fun v => some (zi v)) (by omega) | (exfalso; omega)
                    · exfalso
                      omega
                  · refine z_pushL (z := 1) rfl rfl ?_
                    refine z_goto rfl ?_
                    refine z_last (e := 1) rfl rfl (by decide) (by omega) rfl ?_
                    refine z_pushI (z := 1) rfl rfl ?_
                    refine z_iret rfl rfl ?_
                    refine ⟨?_, ?_⟩
                    · first | rfl | exact congrArg (fun v => some (zi v)) (by omega) | (exfalso; omega)
                    · exfalso
                      omega
                · refine z_lload rfl rfl ?_
                  refine z_goto rfl ?_
                  refine z_last (e := v) rfl rfl (by decide) (by omega) rfl ?_
                  refine z_pushI (z := 1) rfl rfl ?_
                  refine z_iret rfl rfl ?_
                  refine ⟨?_, ?_⟩
                  · first | rfl | exact congrArg (fun v => some (zi v)) (by omega) | (exfalso; omega)
                  · exfalso
                    omega
              · refine z_lload rfl rfl ?_
                refine z_l2i rfl ?_
                refine z_topn (e := zn v) rfl ?_
                have q10 := zn_r v
                refine z_i2l rfl (by omega) ?_
                refine z_goto rfl ?_
                refine z_last (e := zn v) rfl rfl (by decide) (by omega) rfl ?_
                refine z_pushI (z := 1) rfl rfl ?_
                refine z_iret rfl rfl ?_
                refine ⟨?_, ?_⟩
                · first | rfl | exact congrArg (fun v => some (zi v)) (by omega) | (exfalso; omega)
                · exfalso
                  omega
            · refine z_lload rfl rfl ?_
              refine z_l2i rfl ?_
              refine z_i2s (e := zh v) rfl rfl ?_
              have q11 := zh_r v
              refine z_i2l rfl (by omega) ?_
              refine z_goto rfl ?_
              refine z_last (e := zh v) rfl rfl (by decide) (by omega) rfl ?_
              refine z_pushI (z := 1) rfl rfl ?_
              refine z_iret rfl rfl ?_
              refine ⟨?_, ?_⟩
              · first | rfl | exact congrArg (fun v => some (zi v)) (by omega) | (exfalso; omega)
              · exfalso
                omega
          · refine z_lload rfl rfl ?_
            refine z_l2i rfl ?_
            refine z_i2b (e := zb v) rfl rfl ?_
            have q12 := zb_r v
            refine z_i2l rfl (by omega) ?_
            refine z_goto rfl ?_
            refine z_last (e := zb v) rfl rfl (by decide) (by omega) rfl ?_
            refine z_pushI (z := 1) rfl rfl ?_
            refine z_iret rfl rfl ?_
            refine ⟨?_, ?_⟩
            · first | rfl | exact congrArg (fun v => some (zi v)) (by omega) | (exfalso; omega)
            · exfalso
              omega
    · refine z_pushI (z := (-12)) rfl rfl ?_
      refine z_iret rfl rfl ?_
      show zW _ _ _ _ _ _ _ _ _ _
      refine z_istore rfl rfl ?_
      refine z_iload rfl rfl ?_
      refine z_if_geF rfl (by decide) (by decide) ?_
      refine z_iload rfl rfl ?_
      refine z_iret rfl rfl ?_
      refine ⟨?_, ?_⟩
      · first | rfl | exact congrArg (fun v => some (zi v)) (by omega) | (exfalso; omega)
      · exact hr
  · refine z_pushI (z := (-11)) rfl rfl ?_
    refine z_iret rfl rfl ?_
    show zW _ _ _ _ _ _ _ _ _ _
    refine z_istore rfl rfl ?_
    refine z_iload rfl rfl ?_
    refine z_if_geF rfl (by decide) (by decide) ?_
    refine z_iload rfl rfl ?_
    refine z_iret rfl rfl ?_
    refine ⟨?_, ?_⟩
    · first | rfl | exact congrArg (fun v => some (zi v)) (by omega) | (exfalso; omega)
    · exact hr
theorem st_element_22 {X : Nat × (Nat → Int32)} {d : Nat} {J M : zA} {R : zR} {i : Int} (hr : Rel X J M R) (hi : -2147483648 ≤ i ∧ i < 2147483648) (hh : J 42 0 = 2) : zW X (d + 20) 139 0 (gEn 139 [(.ref 0), (zi 2), (zi i)]) [] J M R (stL X (d + 20) 253 [(zi 2), (zi i)]) := by
  have hr0 := hr
  obtain ⟨hR, hG, hY, hD, hP, hC, hAc, hS, hTp, hX, hW⟩ := hr0
  have hRr : zRoR R := zRoR_of hR
  have hA0 := hAc
  obtain ⟨a1, a2, a3, a4, a5, a6⟩ := hA0
  have e83 : J 83 2 = -2 - J 42 2 := (hS 2 (by decide) (by decide)).1.symm.trans (cH_2 hh)
  have s3 : 0 ≤ J 42 2 ∧ J 42 2 ≤ 4 := (hS 2 (by decide) (by decide)).2.2.1
  have s4 : 0 ≤ J 42 3 ∧ J 42 3 ≤ 60 := (hS 2 (by decide) (by decide)).2.2.2.1
  have s6 := (hS 2 (by decide) (by decide)).2.2.2.2.2 hh
  have s7 : J 84 2 = J 42 3 := s6.1.symm
  have s8 : ∀ i, 0 ≤ i → i < J 42 3 → M 43 i = M 85 (120 + i) := s6.2.1
  show zW _ _ _ _ [some (.ref 0), some (zi 2), some (zi i)] _ _ _ _ _
  refine z_iload rfl rfl ?_
  refine z_callSi (As := [_]) (le := [some _]) rfl rfl (Nat.le_of_ble_eq_true rfl) (Nat.le_of_ble_eq_true rfl) rfl ?_
  refine z_iload rfl rfl ?_
  refine z_if_ltF rfl (by decide) (by decide) ?_
  refine z_iload rfl rfl ?_
  refine z_pushI (z := 6) rfl rfl ?_
  refine z_icmp_geF rfl (by decide) (by decide) (by decide) ?_
  refine z_pushI (z := 1) rfl rfl ?_
  refine z_goto rfl ?_
  refine z_bret rfl rfl (by decide) ?_
  show zW _ _ _ _ _ _ _ _ _ _
  refine z_if_eqF rfl (by decide) (by decide) ?_
  refine z_aload rfl rfl ?_
  refine z_getR (r := 37) rfl rfl (hR _ rm_0_11) ?_
  refine z_iload rfl rfl ?_
  refine z_aald (r := 42) rfl rfl (by decide) (by decide) (hR _ rm_37_2) ?_
  refine z_iload rfl rfl ?_
  refine z_callVi (As := [_]) (le := [some _, some _]) rfl rfl rfl (Nat.le_of_ble_eq_true rfl) (Nat.le_of_ble_eq_true rfl) rfl ?_
  refine z_aload rfl rfl ?_
  refine z_getI (v := 2) rfl rfl (hh) ?_
  refine z_if_neT rfl (by decide) (by decide) ?_
  refine z_aload rfl rfl ?_
  refine z_getI (v := 2) rfl rfl (hh) ?_
  refine z_pushI (z := 2) rfl rfl ?_
  refine z_icmp_eqT rfl (by decide) (by decide) (by decide) ?_
  refine z_iload rfl rfl ?_
  refine z_if_lt rfl (by omega) (fun h1 => ?_) (fun h1 => ?_)
  · refine z_pushI (z := (-13)) rfl rfl ?_
    refine z_iret rfl rfl ?_
    show zW _ _ _ _ _ _ _ _ _ _
    refine z_if_geF rfl (by decide) (by decide) ?_
    refine z_pushL (z := (-9223372036854775808)) rfl rfl ?_
    refine z_lret rfl rfl ?_
    refine ⟨_, rfl, ?_⟩
    show zW _ _ _ _ [some (.ref 50), some (zi 2), some (zi i)] _ _ _ _ _
    refine z_aload rfl rfl ?_
    refine z_iload rfl rfl ?_
    refine z_iload rfl rfl ?_
    refine z_callVi (As := [_, _]) (le := [some _, some _, some _]) rfl rfl rfl (Nat.le_of_ble_eq_true rfl) (Nat.le_of_ble_eq_true rfl) rfl ?_
    refine z_iload rfl rfl ?_
    refine z_callSi (As := [_]) (le := [some _]) rfl rfl (Nat.le_of_ble_eq_true rfl) (Nat.le_of_ble_eq_true rfl) rfl ?_
    refine z_iload rfl rfl ?_
    refine z_pushI (z := 0) rfl rfl ?_
    refine z_pushI (z := 5) rfl rfl ?_
    refine z_callSi (As := [_, _, _]) (le := [some _, some _, some _]) rfl rfl (Nat.le_of_ble_eq_true rfl) (Nat.le_of_ble_eq_true rfl) rfl ?_
    refine z_iload rfl rfl ?_
    refine z_iload rfl rfl ?_
    refine z_icmp_ltF rfl (by decide) (by decide) (by decide) ?_
    refine z_iload rfl rfl ?_
    refine z_iload rfl rfl ?_
    refine z_icmp_gtF rfl (by decide) (by decide) (by decide) ?_
    refine z_pushI (z := 1) rfl rfl ?_
    refine z_goto rfl ?_
    refine z_bret rfl rfl (by decide) ?_
    show zW _ _ _ _ _ _ _ _ _ _
    refine z_bret rfl rfl (by decide) ?_
    show zW _ _ _ _ _ _ _ _ _ _
    refine z_if_neT rfl (by decide) (by decide) ?_
    refine z_aload rfl rfl ?_
    refine z_getR (r := 83) rfl rfl (hRr _ rm_50_58 (by decide)) ?_
    refine z_iload rfl rfl ?_
    refine z_iald (v := (-2) - (J 42 2)) rfl rfl (by decide) (by decide) (e83) ?_
    refine z_pushI (z := (-1)) rfl rfl ?_
    refine z_icmp_ne rfl (by omega) (by decide) (fun h2 => ?_) (fun h2 => ?_)
    · refine z_aload rfl rfl ?_
      refine z_getR (r := 83) rfl rfl (hRr _ rm_50_58 (by decide)) ?_
      refine z_iload rfl rfl ?_
      refine z_iald (v := (-2) - (J 42 2)) rfl rfl (by decide) (by decide) (e83) ?_
      refine z_if_lt rfl (by omega) (fun h3 => ?_) (fun h3 => ?_)
      · refine z_iload rfl rfl ?_
        refine z_pushI (z := 0) rfl rfl ?_
        refine z_aload rfl rfl ?_
        refine z_getR (r := 84) rfl rfl (hRr _ rm_50_59 (by decide)) ?_
        refine z_iload rfl rfl ?_
        refine z_iald (v := J 42 3) rfl rfl (by decide) (by decide) (s7) ?_
        refine z_pushI (z := 1) rfl rfl ?_
        refine z_isub (e := (J 42 3) - 1) rfl rfl ?_
        refine z_callSi (As := [_, _, _]) (le := [some _, some _, some _]) rfl rfl (Nat.le_of_ble_eq_true rfl) (Nat.le_of_ble_eq_true rfl) rfl ?_
        refine z_iload rfl rfl ?_
        refine z_iload rfl rfl ?_
        refine z_icmp_ltT rfl (by omega) (by decide) (by omega) ?_
        refine z_pushI (z := 0) rfl rfl ?_
        refine z_bret rfl rfl (by decide) ?_
        show zW _ _ _ _ _ _ _ _ _ _
        refine z_if_eqT rfl (by decide) (by decide) ?_
        refine z_pushI (z := (-13)) rfl rfl ?_
        refine z_iret rfl rfl ?_
        show zW _ _ _ _ _ _ _ _ _ _
        refine z_if_geF rfl (by decide) (by decide) ?_
        refine z_pushL (z := (-9223372036854775808)) rfl rfl ?_
        refine z_goto rfl ?_
        refine z_lret rfl rfl ?_
        refine ⟨?_, ?_⟩
        · first | rfl | exact congrArg (fun v => some (zl v)) (by omega) | (exfalso; omega)
        · exact hr
      · refine z_pushI (z := (-12)) rfl rfl ?_
        refine z_iret rfl rfl ?_
        show zW _ _ _ _ _ _ _ _ _ _
        refine z_if_geF rfl (by decide) (by decide) ?_
        refine z_pushL (z := (-9223372036854775808)) rfl rfl ?_
        refine z_goto rfl ?_
        refine z_lret rfl rfl ?_
        refine ⟨?_, ?_⟩
        · first | rfl | exact congrArg (fun v => some (zl v)) (by omega) | (exfalso; omega)
        · exact hr
    · refine z_pushI (z := (-11)) rfl rfl ?_
      refine z_iret rfl rfl ?_
      show zW _ _ _ _ _ _ _ _ _ _
      refine z_if_geF rfl (by decide) (by decide) ?_
      refine z_pushL (z := (-9223372036854775808)) rfl rfl ?_
      refine z_goto rfl ?_
      refine z_lret rfl rfl ?_
      refine ⟨?_, ?_⟩
      · first | rfl | exact congrArg (fun v => some (zl v)) (by omega) | (exfalso; omega)
      · exact hr
  · refine z_iload rfl rfl ?_
    refine z_aload rfl rfl ?_
    refine z_getI (v := J 42 3) rfl rfl (rfl) ?_
    refine z_icmp_ge rfl (by omega) (by omega) (fun h2 => ?_) (fun h2 => ?_)
    · refine z_pushI (z := (-13)) rfl rfl ?_
      refine z_iret rfl rfl ?_
      show zW _ _ _ _ _ _ _ _ _ _
      refine z_if_geF rfl (by decide) (by decide) ?_
      refine z_pushL (z := (-9223372036854775808)) rfl rfl ?_
      refine z_lret rfl rfl ?_
      refine ⟨_, rfl, ?_⟩
      show zW _ _ _ _ [some (.ref 50), some (zi 2), some (zi i)] _ _ _ _ _
      refine z_aload rfl rfl ?_
      refine z_iload rfl rfl ?_
      refine z_iload rfl rfl ?_
      refine z_callVi (As := [_, _]) (le := [some _, some _, some _]) rfl rfl rfl (Nat.le_of_ble_eq_true rfl) (Nat.le_of_ble_eq_true rfl) rfl ?_
      refine z_iload rfl rfl ?_
      refine z_callSi (As := [_]) (le := [some _]) rfl rfl (Nat.le_of_ble_eq_true rfl) (Nat.le_of_ble_eq_true rfl) rfl ?_
      refine z_iload rfl rfl ?_
      refine z_pushI (z := 0) rfl rfl ?_
      refine z_pushI (z := 5) rfl rfl ?_
      refine z_callSi (As := [_, _, _]) (le := [some _, some _, some _]) rfl rfl (Nat.le_of_ble_eq_true rfl) (Nat.le_of_ble_eq_true rfl) rfl ?_
      refine z_iload rfl rfl ?_
      refine z_iload rfl rfl ?_
      refine z_icmp_ltF rfl (by decide) (by decide) (by decide) ?_
      refine z_iload rfl rfl ?_
      refine z_iload rfl rfl ?_
      refine z_icmp_gtF rfl (by decide) (by decide) (by decide) ?_
      refine z_pushI (z := 1) rfl rfl ?_
      refine z_goto rfl ?_
      refine z_bret rfl rfl (by decide) ?_
      show zW _ _ _ _ _ _ _ _ _ _
      refine z_bret rfl rfl (by decide) ?_
      show zW _ _ _ _ _ _ _ _ _ _
      refine z_if_neT rfl (by decide) (by decide) ?_
      refine z_aload rfl rfl ?_
      refine z_getR (r := 83) rfl rfl (hRr _ rm_50_58 (by decide)) ?_
      refine z_iload rfl rfl ?_
      refine z_iald (v := (-2) - (J 42 2)) rfl rfl (by decide) (by decide) (e83) ?_
      refine z_pushI (z := (-1)) rfl rfl ?_
      refine z_icmp_ne rfl (by omega) (by decide) (fun h3 => ?_) (fun h3 => ?_)
      · refine z_aload rfl rfl ?_
        refine z_getR (r := 83) rfl rfl (hRr _ rm_50_58 (by decide)) ?_
        refine z_iload rfl rfl ?_
        refine z_iald (v := (-2) - (J 42 2)) rfl rfl (by decide) (by decide) (e83) ?_
        refine z_if_lt rfl (by omega) (fun h4 => ?_) (fun h4 => ?_)
        · refine z_iload rfl rfl ?_
          refine z_pushI (z := 0) rfl rfl ?_
          refine z_aload rfl rfl ?_
          refine z_getR (r := 84) rfl rfl (hRr _ rm_50_59 (by decide)) ?_
          refine z_iload rfl rfl ?_
          refine z_iald (v := J 42 3) rfl rfl (by decide) (by decide) (s7) ?_
          refine z_pushI (z := 1) rfl rfl ?_
          refine z_isub (e := (J 42 3) - 1) rfl rfl ?_
          refine z_callSi (As := [_, _, _]) (le := [some _, some _, some _]) rfl rfl (Nat.le_of_ble_eq_true rfl) (Nat.le_of_ble_eq_true rfl) rfl ?_
          refine z_iload rfl rfl ?_
          refine z_iload rfl rfl ?_
          refine z_icmp_ltF rfl (by omega) (by decide) (by omega) ?_
          refine z_iload rfl rfl ?_
          refine z_iload rfl rfl ?_
          refine z_icmp_gtT rfl (by omega) (by omega) (by omega) ?_
          refine z_pushI (z := 0) rfl rfl ?_
          refine z_bret rfl rfl (by decide) ?_
          show zW _ _ _ _ _ _ _ _ _ _
          refine z_if_eqT rfl (by decide) (by decide) ?_
          refine z_pushI (z := (-13)) rfl rfl ?_
          refine z_iret rfl rfl ?_
          show zW _ _ _ _ _ _ _ _ _ _
          refine z_if_geF rfl (by decide) (by decide) ?_
          refine z_pushL (z := (-9223372036854775808)) rfl rfl ?_
          refine z_goto rfl ?_
          refine z_lret rfl rfl ?_
          refine ⟨?_, ?_⟩
          · first | rfl | exact congrArg (fun v => some (zl v)) (by omega) | (exfalso; omega)
          · exact hr
        · refine z_pushI (z := (-12)) rfl rfl ?_
          refine z_iret rfl rfl ?_
          show zW _ _ _ _ _ _ _ _ _ _
          refine z_if_geF rfl (by decide) (by decide) ?_
          refine z_pushL (z := (-9223372036854775808)) rfl rfl ?_
          refine z_goto rfl ?_
          refine z_lret rfl rfl ?_
          refine ⟨?_, ?_⟩
          · first | rfl | exact congrArg (fun v => some (zl v)) (by omega) | (exfalso; omega)
          · exact hr
      · refine z_pushI (z := (-11)) rfl rfl ?_
        refine z_iret rfl rfl ?_
        show zW _ _ _ _ _ _ _ _ _ _
        refine z_if_geF rfl (by decide) (by decide) ?_
        refine z_pushL (z := (-9223372036854775808)) rfl rfl ?_
        refine z_goto rfl ?_
        refine z_lret rfl rfl ?_
        refine ⟨?_, ?_⟩
        · first | rfl | exact congrArg (fun v => some (zl v)) (by omega) | (exfalso; omega)
        · exact hr
    · refine z_pushI (z := 0) rfl rfl ?_
      refine z_goto rfl ?_
      refine z_iret rfl rfl ?_
      show zW _ _ _ _ _ _ _ _ _ _
      refine z_if_geT rfl (by decide) (by decide) ?_
      refine z_aload rfl rfl ?_
      refine z_getR (r := 37) rfl rfl (hR _ rm_0_11) ?_
      refine z_iload rfl rfl ?_
      refine z_aald (r := 42) rfl rfl (by decide) (by decide) (hR _ rm_37_2) ?_
      refine z_iload rfl rfl ?_
      refine z_callVi (As := [_]) (le := [some _, some _]) rfl rfl rfl (Nat.le_of_ble_eq_true rfl) (Nat.le_of_ble_eq_true rfl) rfl ?_
      refine z_iload rfl rfl ?_
      refine z_if_ltF rfl (by omega) (by omega) ?_
      refine z_iload rfl rfl ?_
      refine z_aload rfl rfl ?_
      refine z_getI (v := J 42 3) rfl rfl (rfl) ?_
      refine z_icmp_geF rfl (by omega) (by omega) (by omega) ?_
      refine z_aload rfl rfl ?_
      refine z_getR (r := 43) rfl rfl (hR _ rm_42_4) ?_
      refine z_iload rfl rfl ?_
      refine z_lald (v := M 43 i) rfl rfl (by decide) (by omega) (rfl) ?_
      refine z_goto rfl ?_
      refine z_lret rfl rfl ?_
      show zW _ _ _ _ _ _ _ _ _ _
      refine z_lret rfl rfl ?_
      refine ⟨_, rfl, ?_⟩
      show zW _ _ _ _ [some (.ref 50), some (zi 2), some (zi i)] _ _ _ _ _
      refine z_aload rfl rfl ?_
      refine z_iload rfl rfl ?_
      refine z_iload rfl rfl ?_
      refine z_callVi (As := [_, _]) (le := [some _, some _, some _]) rfl rfl rfl (Nat.le_of_ble_eq_true rfl) (Nat.le_of_ble_eq_true rfl) rfl ?_
      refine z_iload rfl rfl ?_
      refine z_callSi (As := [_]) (le := [some _]) rfl rfl (Nat.le_of_ble_eq_true rfl) (Nat.le_of_ble_eq_true rfl) rfl ?_
      refine z_iload rfl rfl ?_
      refine z_pushI (z := 0) rfl rfl ?_
      refine z_pushI (z := 5) rfl rfl ?_
      refine z_callSi (As := [_, _, _]) (le := [some _, some _, some _]) rfl rfl (Nat.le_of_ble_eq_true rfl) (Nat.le_of_ble_eq_true rfl) rfl ?_
      refine z_iload rfl rfl ?_
      refine z_iload rfl rfl ?_
      refine z_icmp_ltF rfl (by decide) (by decide) (by decide) ?_
      refine z_iload rfl rfl ?_
      refine z_iload rfl rfl ?_
      refine z_icmp_gtF rfl (by decide) (by decide) (by decide) ?_
      refine z_pushI (z := 1) rfl rfl ?_
      refine z_goto rfl ?_
      refine z_bret rfl rfl (by decide) ?_
      show zW _ _ _ _ _ _ _ _ _ _
      refine z_bret rfl rfl (by decide) ?_
      show zW _ _ _ _ _ _ _ _ _ _
      refine z_if_neT rfl (by decide) (by decide) ?_
      refine z_aload rfl rfl ?_
      refine z_getR (r := 83) rfl rfl (hRr _ rm_50_58 (by decide)) ?_
      refine z_iload rfl rfl ?_
      refine z_iald (v := (-2) - (J 42 2)) rfl rfl (by decide) (by decide) (e83) ?_
      refine z_pushI (z := (-1)) rfl rfl ?_
      refine z_icmp_ne rfl (by omega) (by decide) (fun h3 => ?_) (fun h3 => ?_)
      · refine z_aload rfl rfl ?_
        refine z_getR (r := 83) rfl rfl (hRr _ rm_50_58 (by decide)) ?_
        refine z_iload rfl rfl ?_
        refine z_iald (v := (-2) - (J 42 2)) rfl rfl (by decide) (by decide) (e83) ?_
        refine z_if_lt rfl (by omega) (fun h4 => ?_) (fun h4 => ?_)
        · refine z_iload rfl rfl ?_
          refine z_pushI (z := 0) rfl rfl ?_
          refine z_aload rfl rfl ?_
          refine z_getR (r := 84) rfl rfl (hRr _ rm_50_59 (by decide)) ?_
          refine z_iload rfl rfl ?_
          refine z_iald (v := J 42 3) rfl rfl (by decide) (by decide) (s7) ?_
          refine z_pushI (z := 1) rfl rfl ?_
          refine z_isub (e := (J 42 3) - 1) rfl rfl ?_
          refine z_callSi (As := [_, _, _]) (le := [some _, some _, some _]) rfl rfl (Nat.le_of_ble_eq_true rfl) (Nat.le_of_ble_eq_true rfl) rfl ?_
          refine z_iload rfl rfl ?_
          refine z_iload rfl rfl ?_
          refine z_icmp_ltF rfl (by omega) (by decide) (by omega) ?_
          refine z_iload rfl rfl ?_
          refine z_iload rfl rfl ?_
          refine z_icmp_gtF rfl (by omega) (by omega) (by omega) ?_
          refine z_pushI (z := 1) rfl rfl ?_
          refine z_goto rfl ?_
          refine z_bret rfl rfl (by decide) ?_
          show zW _ _ _ _ _ _ _ _ _ _
          refine z_if_eqF rfl (by decide) (by decide) ?_
          refine z_pushI (z := 0) rfl rfl ?_
          refine z_goto rfl ?_
          refine z_iret rfl rfl ?_
          show zW _ _ _ _ _ _ _ _ _ _
          refine z_if_geT rfl (by decide) (by decide) ?_
          refine z_aload rfl rfl ?_
          refine z_getR (r := 85) rfl rfl (hRr _ rm_50_60 (by decide)) ?_
          refine z_pushI (z := 60) rfl rfl ?_
          refine z_iload rfl rfl ?_
          refine z_imul (e := 120) rfl rfl ?_
          refine z_iload rfl rfl ?_
          refine z_iadd (e := 120 + i) rfl rfl ?_
          refine z_lald (v := M 85 (120 + i)) rfl rfl (by decide) (by omega) (rfl) ?_
          refine z_lret rfl rfl ?_
          refine ⟨?_, ?_⟩
          · first | exact congrArg (fun v => some (zl v)) (s8 i (by omega) (by omega)).symm | (exfalso; omega)
          · exact hr
        · refine z_pushI (z := (-12)) rfl rfl ?_
          refine z_iret rfl rfl ?_
          show zW _ _ _ _ _ _ _ _ _ _
          refine z_if_geF rfl (by decide) (by decide) ?_
          refine z_pushL (z := (-9223372036854775808)) rfl rfl ?_
          refine z_goto rfl ?_
          refine z_lret rfl rfl ?_
          refine ⟨?_, ?_⟩
          · first | exact congrArg (fun v => some (zl v)) (s8 i (by omega) (by omega)).symm | (exfalso; omega)
          · exact hr
      · refine z_pushI (z := (-11)) rfl rfl ?_
        refine z_iret rfl rfl ?_
        show zW _ _ _ _ _ _ _ _ _ _
        refine z_if_geF rfl (by decide) (by decide) ?_
        refine z_pushL (z := (-9223372036854775808)) rfl rfl ?_
        refine z_goto rfl ?_
        refine z_lret rfl rfl ?_
        refine ⟨?_, ?_⟩
        · first | exact congrArg (fun v => some (zl v)) (s8 i (by omega) (by omega)).symm | (exfalso; omega)
        · exact hr
theorem st_put_220 {X : Nat × (Nat → Int32)} {d : Nat} {J M : zA} {R : zR} {i v : Int} (hr : Rel X J M R) (hi : -2147483648 ≤ i ∧ i < 2147483648) (hv : -9223372036854775808 ≤ v ∧ v < 9223372036854775808) (hh : J 42 0 = 2) (hso : J 42 2 = 0) : zW X (d + 20) 138 0 (gEn 138 [(.ref 0), (zi 2), (zi i), (zl v)]) [] J M R (stP X (d + 20) 252 [(zi 2), (zi i), (zl v)]) := by
  have hr0 := hr
  obtain ⟨hR, hG, hY, hD, hP, hC, hAc, hS, hTp, hX, hW⟩ := hr0
  have hRr : zRoR R := zRoR_of hR
  have e83 : J 83 2 = -2 - J 42 2 := (hS 2 (by decide) (by decide)).1.symm.trans (cH_2 hh)
  have s3 : 0 ≤ J 42 2 ∧ J 42 2 ≤ 4 := (hS 2 (by decide) (by decide)).2.2.1
  have s4 : 0 ≤ J 42 3 ∧ J 42 3 ≤ 60 := (hS 2 (by decide) (by decide)).2.2.2.1
  have s6 := (hS 2 (by decide) (by decide)).2.2.2.2.2 hh
  have s7 : J 84 2 = J 42 3 := s6.1.symm
  have s8 : ∀ i, 0 ≤ i → i < J 42 3 → M 43 i = M 85 (120 + i) := s6.2.1
  show zW _ _ _ _ [some (.ref 0), some (zi 2), some (zi i), some (zl v), none, none] _ _ _ _ _
  refine z_iload rfl rfl ?_
  refine z_callSi (As := [_]) (le := [some _]) rfl rfl (Nat.le_of_ble_eq_true rfl) (Nat.le_of_ble_eq_true rfl) rfl ?_
  refine z_iload rfl rfl ?_
  refine z_if_ltF rfl (by decide) (by decide) ?_
  refine z_iload rfl rfl ?_
  refine z_pushI (z := 6) rfl rfl ?_
  refine z_icmp_geF rfl (by decide) (by decide) (by decide) ?_
  refine z_pushI (z := 1) rfl rfl ?_
  refine z_goto rfl ?_
  refine z_bret rfl rfl (by decide) ?_
  show zW _ _ _ _ _ _ _ _ _ _
  refine z_if_neT rfl (by decide) (by decide) ?_
  refine z_aload rfl rfl ?_
  refine z_getR (r := 37) rfl rfl (hR _ rm_0_11) ?_
  refine z_iload rfl rfl ?_
  refine z_aald (r := 42) rfl rfl (by decide) (by decide) (hR _ rm_37_2) ?_
  refine z_iload rfl rfl ?_
  refine z_callVi (As := [_]) (le := [some _, some _]) rfl rfl rfl (Nat.le_of_ble_eq_true rfl) (Nat.le_of_ble_eq_true rfl) rfl ?_
  refine z_aload rfl rfl ?_
  refine z_getI (v := 2) rfl rfl (hh) ?_
  refine z_if_neT rfl (by decide) (by decide) ?_
  refine z_aload rfl rfl ?_
  refine z_getI (v := 2) rfl rfl (hh) ?_
  refine z_pushI (z := 2) rfl rfl ?_
  refine z_icmp_eqT rfl (by decide) (by decide) (by decide) ?_
  refine z_iload rfl rfl ?_
  refine z_if_lt rfl (by omega) (fun h1 => ?_) (fun h1 => ?_)
  · refine z_pushI (z := (-13)) rfl rfl ?_
    refine z_iret rfl rfl ?_
    show zW _ _ _ _ _ _ _ _ _ _
    refine z_istore rfl rfl ?_
    refine z_iload rfl rfl ?_
    refine z_if_geF rfl (by decide) (by decide) ?_
    refine z_iload rfl rfl ?_
    refine z_iret rfl rfl ?_
    refine ⟨_, rfl, ?_⟩
    show zW _ _ _ _ [some (.ref 50), some (zi 2), some (zi i), some (zl v), none, none, none] _ _ _ _ _
    refine z_aload rfl rfl ?_
    refine z_iload rfl rfl ?_
    refine z_iload rfl rfl ?_
    refine z_callVi (As := [_, _]) (le := [some _, some _, some _]) rfl rfl rfl (Nat.le_of_ble_eq_true rfl) (Nat.le_of_ble_eq_true rfl) rfl ?_
    refine z_iload rfl rfl ?_
    refine z_callSi (As := [_]) (le := [some _]) rfl rfl (Nat.le_of_ble_eq_true rfl) (Nat.le_of_ble_eq_true rfl) rfl ?_
    refine z_iload rfl rfl ?_
    refine z_pushI (z := 0) rfl rfl ?_
    refine z_pushI (z := 5) rfl rfl ?_
    refine z_callSi (As := [_, _, _]) (le := [some _, some _, some _]) rfl rfl (Nat.le_of_ble_eq_true rfl) (Nat.le_of_ble_eq_true rfl) rfl ?_
    refine z_iload rfl rfl ?_
    refine z_iload rfl rfl ?_
    refine z_icmp_ltF rfl (by decide) (by decide) (by decide) ?_
    refine z_iload rfl rfl ?_
    refine z_iload rfl rfl ?_
    refine z_icmp_gtF rfl (by decide) (by decide) (by decide) ?_
    refine z_pushI (z := 1) rfl rfl ?_
    refine z_goto rfl ?_
    refine z_bret rfl rfl (by decide) ?_
    show zW _ _ _ _ _ _ _ _ _ _
    refine z_bret rfl rfl (by decide) ?_
    show zW _ _ _ _ _ _ _ _ _ _
    refine z_if_neT rfl (by decide) (by decide) ?_
    refine z_aload rfl rfl ?_
    refine z_getR (r := 83) rfl rfl (hRr _ rm_50_58 (by decide)) ?_
    refine z_iload rfl rfl ?_
    refine z_iald (v := (-2)) rfl rfl (by decide) (by decide) ((e83.trans (by rw [hso]; rfl))) ?_
    refine z_pushI (z := (-1)) rfl rfl ?_
    refine z_icmp_neT rfl (by decide) (by decide) (by decide) ?_
    refine z_aload rfl rfl ?_
    refine z_getR (r := 83) rfl rfl (hRr _ rm_50_58 (by decide)) ?_
    refine z_iload rfl rfl ?_
    refine z_iald (v := (-2)) rfl rfl (by decide) (by decide) ((e83.trans (by rw [hso]; rfl))) ?_
    refine z_if_ltT rfl (by decide) (by decide) ?_
    refine z_iload rfl rfl ?_
    refine z_pushI (z := 0) rfl rfl ?_
    refine z_aload rfl rfl ?_
    refine z_getR (r := 84) rfl rfl (hRr _ rm_50_59 (by decide)) ?_
    refine z_iload rfl rfl ?_
    refine z_iald (v := J 42 3) rfl rfl (by decide) (by decide) (s7) ?_
    refine z_pushI (z := 1) rfl rfl ?_
    refine z_isub (e := (J 42 3) - 1) rfl rfl ?_
    refine z_callSi (As := [_, _, _]) (le := [some _, some _, some _]) rfl rfl (Nat.le_of_ble_eq_true rfl) (Nat.le_of_ble_eq_true rfl) rfl ?_
    refine z_iload rfl rfl ?_
    refine z_iload rfl rfl ?_
    refine z_icmp_ltT rfl (by omega) (by decide) (by omega) ?_
    refine z_pushI (z := 0) rfl rfl ?_
    refine z_bret rfl rfl (by decide) ?_
    show zW _ _ _ _ _ _ _ _ _ _
    refine z_if_eqT rfl (by decide) (by decide) ?_
    refine z_pushI (z := (-13)) rfl rfl ?_
    refine z_iret rfl rfl ?_
    show zW _ _ _ _ _ _ _ _ _ _
    refine z_istore rfl rfl ?_
    refine z_iload rfl rfl ?_
    refine z_if_geF rfl (by decide) (by decide) ?_
    refine z_iload rfl rfl ?_
    refine z_iret rfl rfl ?_
    refine ⟨?_, ?_⟩
    · first | rfl | exact congrArg (fun v => some (zi v)) (by omega) | (exfalso; omega)
    · exact hr
  · refine z_iload rfl rfl ?_
    refine z_aload rfl rfl ?_
    refine z_getI (v := J 42 3) rfl rfl (rfl) ?_
    refine z_icmp_ge rfl (by omega) (by omega) (fun h2 => ?_) (fun h2 => ?_)
    · refine z_pushI (z := (-13)) rfl rfl ?_
      refine z_iret rfl rfl ?_
      show zW _ _ _ _ _ _ _ _ _ _
      refine z_istore rfl rfl ?_
      refine z_iload rfl rfl ?_
      refine z_if_geF rfl (by decide) (by decide) ?_
      refine z_iload rfl rfl ?_
      refine z_iret rfl rfl ?_
      refine ⟨_, rfl, ?_⟩
      show zW _ _ _ _ [some (.ref 50), some (zi 2), some (zi i), some (zl v), none, none, none] _ _ _ _ _
      refine z_aload rfl rfl ?_
      refine z_iload rfl rfl ?_
      refine z_iload rfl rfl ?_
      refine z_callVi (As := [_, _]) (le := [some _, some _, some _]) rfl rfl rfl (Nat.le_of_ble_eq_true rfl) (Nat.le_of_ble_eq_true rfl) rfl ?_
      refine z_iload rfl rfl ?_
      refine z_callSi (As := [_]) (le := [some _]) rfl rfl (Nat.le_of_ble_eq_true rfl) (Nat.le_of_ble_eq_true rfl) rfl ?_
      refine z_iload rfl rfl ?_
      refine z_pushI (z := 0) rfl rfl ?_
      refine z_pushI (z := 5) rfl rfl ?_
      refine z_callSi (As := [_, _, _]) (le := [some _, some _, some _]) rfl rfl (Nat.le_of_ble_eq_true rfl) (Nat.le_of_ble_eq_true rfl) rfl ?_
      refine z_iload rfl rfl ?_
      refine z_iload rfl rfl ?_
      refine z_icmp_ltF rfl (by decide) (by decide) (by decide) ?_
      refine z_iload rfl rfl ?_
      refine z_iload rfl rfl ?_
      refine z_icmp_gtF rfl (by decide) (by decide) (by decide) ?_
      refine z_pushI (z := 1) rfl rfl ?_
      refine z_goto rfl ?_
      refine z_bret rfl rfl (by decide) ?_
      show zW _ _ _ _ _ _ _ _ _ _
      refine z_bret rfl rfl (by decide) ?_
      show zW _ _ _ _ _ _ _ _ _ _
      refine z_if_neT rfl (by decide) (by decide) ?_
      refine z_aload rfl rfl ?_
      refine z_getR (r := 83) rfl rfl (hRr _ rm_50_58 (by decide)) ?_
      refine z_iload rfl rfl ?_
      refine z_iald (v := (-2)) rfl rfl (by decide) (by decide) ((e83.trans (by rw [hso]; rfl))) ?_
      refine z_pushI (z := (-1)) rfl rfl ?_
      refine z_icmp_neT rfl (by decide) (by decide) (by decide) ?_
      refine z_aload rfl rfl ?_
      refine z_getR (r := 83) rfl rfl (hRr _ rm_50_58 (by decide)) ?_
      refine z_iload rfl rfl ?_
      refine z_iald (v := (-2)) rfl rfl (by decide) (by decide) ((e83.trans (by rw [hso]; rfl))) ?_
      refine z_if_ltT rfl (by decide) (by decide) ?_
      refine z_iload rfl rfl ?_
      refine z_pushI (z := 0) rfl rfl ?_
      refine z_aload rfl rfl ?_
      refine z_getR (r := 84) rfl rfl (hRr _ rm_50_59 (by decide)) ?_
      refine z_iload rfl rfl ?_
      refine z_iald (v := J 42 3) rfl rfl (by decide) (by decide) (s7) ?_
      refine z_pushI (z := 1) rfl rfl ?_
      refine z_isub (e := (J 42 3) - 1) rfl rfl ?_
      refine z_callSi (As := [_, _, _]) (le := [some _, some _, some _]) rfl rfl (Nat.le_of_ble_eq_true rfl) (Nat.le_of_ble_eq_true rfl) rfl ?_
      refine z_iload rfl rfl ?_
      refine z_iload rfl rfl ?_
      refine z_icmp_ltF rfl (by omega) (by decide) (by omega) ?_
      refine z_iload rfl rfl ?_
      refine z_iload rfl rfl ?_
      refine z_icmp_gtT rfl (by omega) (by omega) (by omega) ?_
      refine z_pushI (z := 0) rfl rfl ?_
      refine z_bret rfl rfl (by decide) ?_
      show zW _ _ _ _ _ _ _ _ _ _
      refine z_if_eqT rfl (by decide) (by decide) ?_
      refine z_pushI (z := (-13)) rfl rfl ?_
      refine z_iret rfl rfl ?_
      show zW _ _ _ _ _ _ _ _ _ _
      refine z_istore rfl rfl ?_
      refine z_iload rfl rfl ?_
      refine z_if_geF rfl (by decide) (by decide) ?_
      refine z_iload rfl rfl ?_
      refine z_iret rfl rfl ?_
      refine ⟨?_, ?_⟩
      · first | rfl | exact congrArg (fun v => some (zi v)) (by omega) | (exfalso; omega)
      · exact hr
    · refine z_pushI (z := 0) rfl rfl ?_
      refine z_goto rfl ?_
      refine z_iret rfl rfl ?_
      show zW _ _ _ _ _ _ _ _ _ _
      refine z_istore rfl rfl ?_
      refine z_iload rfl rfl ?_
      refine z_if_geT rfl (by decide) (by decide) ?_
      refine z_aload rfl rfl ?_
      refine z_getR (r := 37) rfl rfl (hR _ rm_0_11) ?_
      refine z_iload rfl rfl ?_
      refine z_aald (r := 42) rfl rfl (by decide) (by decide) (hR _ rm_37_2) ?_
      refine z_iload rfl rfl ?_
      refine z_lload rfl rfl ?_
      refine z_callVi (As := [_, _]) (le := [some _, some _, some _, none]) rfl rfl rfl (Nat.le_of_ble_eq_true rfl) (Nat.le_of_ble_eq_true rfl) rfl ?_
      refine z_iload rfl rfl ?_
      refine z_if_ltF rfl (by omega) (by omega) ?_
      refine z_iload rfl rfl ?_
      refine z_aload rfl rfl ?_
      refine z_getI (v := J 42 3) rfl rfl (rfl) ?_
      refine z_icmp_geF rfl (by omega) (by omega) (by omega) ?_
      refine z_aload rfl rfl ?_
      refine z_getR (r := 43) rfl rfl (hR _ rm_42_4) ?_
      refine z_iload rfl rfl ?_
      refine z_aload rfl rfl ?_
      refine z_lload rfl rfl ?_
      refine z_callVi (As := [_]) (le := [some _, some _, none]) rfl rfl rfl (Nat.le_of_ble_eq_true rfl) (Nat.le_of_ble_eq_true rfl) rfl ?_
      refine z_aload rfl rfl ?_
      refine z_getI (v := 0) rfl rfl (hso) ?_
      refine z_swI (tg := 40) rfl (by decide) (T := [((0 : Int), 40), ((1 : Int), 45), ((2 : Int), 50), ((3 : Int), 66), ((4 : Int), 54)]) rfl (by decide) ?_
      refine z_lload rfl rfl ?_
      refine z_l2i rfl ?_
      refine z_i2b (e := zb v) rfl rfl ?_
      have q3 := zb_r v
      refine z_i2l rfl (by omega) ?_
      refine z_lret rfl rfl ?_
      show zW _ _ _ _ _ _ _ _ _ _
      refine z_last (e := zb v) rfl rfl (by decide) (by omega) rfl ?_
      refine z_vret rfl rfl ?_
      show zW _ _ _ _ _ _ _ _ _ _
      refine z_pushI (z := 1) rfl rfl ?_
      refine z_iret rfl rfl ?_
      refine ⟨_, rfl, ?_⟩
      show zW _ _ _ _ [some (.ref 50), some (zi 2), some (zi i), some (zl v), none, none, none] _ _ _ _ _
      refine z_aload rfl rfl ?_
      refine z_iload rfl rfl ?_
      refine z_iload rfl rfl ?_
      refine z_callVi (As := [_, _]) (le := [some _, some _, some _]) rfl rfl rfl (Nat.le_of_ble_eq_true rfl) (Nat.le_of_ble_eq_true rfl) rfl ?_
      refine z_iload rfl rfl ?_
      refine z_callSi (As := [_]) (le := [some _]) rfl rfl (Nat.le_of_ble_eq_true rfl) (Nat.le_of_ble_eq_true rfl) rfl ?_
      refine z_iload rfl rfl ?_
      refine z_pushI (z := 0) rfl rfl ?_
      refine z_pushI (z := 5) rfl rfl ?_
      refine z_callSi (As := [_, _, _]) (le := [some _, some _, some _]) rfl rfl (Nat.le_of_ble_eq_true rfl) (Nat.le_of_ble_eq_true rfl) rfl ?_
      refine z_iload rfl rfl ?_
      refine z_iload rfl rfl ?_
      refine z_icmp_ltF rfl (by decide) (by decide) (by decide) ?_
      refine z_iload rfl rfl ?_
      refine z_iload rfl rfl ?_
      refine z_icmp_gtF rfl (by decide) (by decide) (by decide) ?_
      refine z_pushI (z := 1) rfl rfl ?_
      refine z_goto rfl ?_
      refine z_bret rfl rfl (by decide) ?_
      show zW _ _ _ _ _ _ _ _ _ _
      refine z_bret rfl rfl (by decide) ?_
      show zW _ _ _ _ _ _ _ _ _ _
      refine z_if_neT rfl (by decide) (by decide) ?_
      refine z_aload rfl rfl ?_
      refine z_getR (r := 83) rfl rfl (hRr _ rm_50_58 (by decide)) ?_
      refine z_iload rfl rfl ?_
      refine z_iald (v := (-2)) rfl rfl (by decide) (by decide) ((e83.trans (by rw [hso]; rfl))) ?_
      refine z_pushI (z := (-1)) rfl rfl ?_
      refine z_icmp_neT rfl (by decide) (by decide) (by decide) ?_
      refine z_aload rfl rfl ?_
      refine z_getR (r := 83) rfl rfl (hRr _ rm_50_58 (by decide)) ?_
      refine z_iload rfl rfl ?_
      refine z_iald (v := (-2)) rfl rfl (by decide) (by decide) ((e83.trans (by rw [hso]; rfl))) ?_
      refine z_if_ltT rfl (by decide) (by decide) ?_
      refine z_iload rfl rfl ?_
      refine z_pushI (z := 0) rfl rfl ?_
      refine z_aload rfl rfl ?_
      refine z_getR (r := 84) rfl rfl (hRr _ rm_50_59 (by decide)) ?_
      refine z_iload rfl rfl ?_
      refine z_iald (v := J 42 3) rfl rfl (by decide) (by decide) (s7) ?_
      refine z_pushI (z := 1) rfl rfl ?_
      refine z_isub (e := (J 42 3) - 1) rfl rfl ?_
      refine z_callSi (As := [_, _, _]) (le := [some _, some _, some _]) rfl rfl (Nat.le_of_ble_eq_true rfl) (Nat.le_of_ble_eq_true rfl) rfl ?_
      refine z_iload rfl rfl ?_
      refine z_iload rfl rfl ?_
      refine z_icmp_ltF rfl (by omega) (by decide) (by omega) ?_
      refine z_iload rfl rfl ?_
      refine z_iload rfl rfl ?_
      refine z_icmp_gtF rfl (by omega) (by omega) (by omega) ?_
      refine z_pushI (z := 1) rfl rfl ?_
      refine z_goto rfl ?_
      refine z_bret rfl rfl (by decide) ?_
      show zW _ _ _ _ _ _ _ _ _ _
      refine z_if_eqF rfl (by decide) (by decide) ?_
      refine z_pushI (z := 0) rfl rfl ?_
      refine z_goto rfl ?_
      refine z_iret rfl rfl ?_
      show zW _ _ _ _ _ _ _ _ _ _
      refine z_istore rfl rfl ?_
      refine z_iload rfl rfl ?_
      refine z_if_geT rfl (by decide) (by decide) ?_
      refine z_pushI (z := (-2)) rfl rfl ?_
      refine z_aload rfl rfl ?_
      refine z_getR (r := 83) rfl rfl (hRr _ rm_50_58 (by decide)) ?_
      refine z_iload rfl rfl ?_
      refine z_iald (v := (-2)) rfl rfl (by decide) (by decide) ((e83.trans (by rw [hso]; rfl))) ?_
      refine z_isub (e := 0) rfl rfl ?_
      refine z_istore rfl rfl ?_
      refine z_aload rfl rfl ?_
      refine z_getR (r := 85) rfl rfl (hRr _ rm_50_60 (by decide)) ?_
      refine z_pushI (z := 60) rfl rfl ?_
      refine z_iload rfl rfl ?_
      refine z_imul (e := 120) rfl rfl ?_
      refine z_iload rfl rfl ?_
      refine z_iadd (e := 120 + i) rfl rfl ?_
      refine z_iload rfl rfl ?_
      refine z_if_neF rfl (by decide) (by decide) ?_
      refine z_lload rfl rfl ?_
      refine z_l2i rfl ?_
      refine z_i2b (e := zb v) rfl rfl ?_
      have q4 := zb_r v
      refine z_i2l rfl (by omega) ?_
      refine z_goto rfl ?_
      refine z_last (e := zb v) rfl rfl (by decide) (by omega) rfl ?_
      refine z_pushI (z := 1) rfl rfl ?_
      refine z_iret rfl rfl ?_
      refine ⟨?_, ?_⟩
      · first | rfl | exact congrArg (fun v => some (zi v)) (by omega) | (exfalso; omega)
      · have hk := (zK_r (k := (kL [] [])) (A := J))
        have hkm := (zK_x (a := 85) (x := 120 + i) (v := zb v) (zK_x (a := 43) (x := i) (v := zb v) (zK_r (k := (kL [43, 85] [])) (A := M)) rfl) rfl)
        exact ⟨hR, hG, RelY_k hk (by repeat' constructor) (fun p => by repeat' constructor) hY, RelD_k hk (by repeat' constructor) (fun p => by repeat' constructor) hD, RelP_k hk (by repeat' constructor) (fun p => by repeat' constructor) hP, RelC_k hk (by repeat' constructor) (fun p => by repeat' constructor) hC, RelA_k hk (by repeat' constructor) (fun p => by repeat' constructor) hAc, (RelS_one (J := J) (M := M) (c := 2) (fun t t1 t2 te => by have q : t = 0 ∨ t = 1 ∨ t = 2 ∨ t = 3 ∨ t = 4 ∨ t = 5 := (by omega); rcases q with rfl | rfl | rfl | rfl | rfl | rfl <;> first | exact absurd rfl te | exact ⟨fun j => rfl, rfl, rfl⟩) (fun t t1 t2 te => by have q : t = 0 ∨ t = 1 ∨ t = 2 ∨ t = 3 ∨ t = 4 ∨ t = 5 := (by omega); rcases q with rfl | rfl | rfl | rfl | rfl | rfl <;> first | exact absurd rfl te | exact ⟨fun j => rfl, fun j j1 j2 => (zU_x (by omega)).trans (zU_n (by decide))⟩) rfl (show RelS1 _ _ _ from ⟨(hS 2 (by decide) (by decide)).1, (hS 2 (by decide) (by decide)).2.1, s3, s4, (hS 2 (by decide) (by decide)).2.2.2.2.1, fun _ => ⟨s7.symm, fun k k1 k2 => by show (if k = i then zb v else M 43 k) = (if 120 + k = 120 + i then zb v else M 85 (120 + k)); by_cases e : k = i; rw [if_pos e, if_pos (by omega)]; rw [if_neg e, if_neg (by omega)]; exact s8 k k1 k2, (fun hq k k1 k2 => by show -128 ≤ (if k = i then zb v else M 43 k) ∧ (if k = i then zb v else M 43 k) ≤ 127; split <;> first | (have := zb_r v; omega) | exact s6.2.2 hq k k1 k2)⟩⟩) hS), RelT_k hk (by repeat' constructor) (fun p => by repeat' constructor) hTp, RelX_k hk (by repeat' constructor) (fun p => by repeat' constructor) hX, RelW_k hk ⟨rfl, rfl⟩ trivial hW⟩
theorem st_put_221 {X : Nat × (Nat → Int32)} {d : Nat} {J M : zA} {R : zR} {i v : Int} (hr : Rel X J M R) (hi : -2147483648 ≤ i ∧ i < 2147483648) (hv : -9223372036854775808 ≤ v ∧ v < 9223372036854775808) (hh : J 42 0 = 2) (hso : J 42 2 = 1) : zW X (d + 20) 138 0 (gEn 138 [(.ref 0), (zi 2), (zi i), (zl v)]) [] J M R (stP X (d + 20) 252 [(zi 2), (zi i), (zl v)]) := by
  have hr0 := hr
  obtain ⟨hR, hG, hY, hD, hP, hC, hAc, hS, hTp, hX, hW⟩ := hr0
  have hRr : zRoR R := zRoR_of hR
  have e83 : J 83 2 = -2 - J 42 2 := (hS 2 (by decide) (by decide)).1.symm.trans (cH_2 hh)
  have s3 : 0 ≤ J 42 2 ∧ J 42 2 ≤ 4 := (hS 2 (by decide) (by decide)).2.2.1
  have s4 : 0 ≤ J 42 3 ∧ J 42 3 ≤ 60 := (hS 2 (by decide) (by decide)).2.2.2.1
  have s6 := (hS 2 (by decide) (by decide)).2.2.2.2.2 hh
  have s7 : J 84 2 = J 42 3 := s6.1.symm
  have s8 : ∀ i, 0 ≤ i → i < J 42 3 → M 43 i = M 85 (120 + i) := s6.2.1
  show zW _ _ _ _ [some (.ref 0), some (zi 2), some (zi i), some (zl v), none, none] _ _ _ _ _
  refine z_iload rfl rfl ?_
  refine z_callSi (As := [_]) (le := [some _]) rfl rfl (Nat.le_of_ble_eq_true rfl) (Nat.le_of_ble_eq_true rfl) rfl ?_
  refine z_iload rfl rfl ?_
  refine z_if_ltF rfl (by decide) (by decide) ?_
  refine z_iload rfl rfl ?_
  refine z_pushI (z := 6) rfl rfl ?_
  refine z_icmp_geF rfl (by decide) (by decide) (by decide) ?_
  refine z_pushI (z := 1) rfl rfl ?_
  refine z_goto rfl ?_
  refine z_bret rfl rfl (by decide) ?_
  show zW _ _ _ _ _ _ _ _ _ _
  refine z_if_neT rfl (by decide) (by decide) ?_
  refine z_aload rfl rfl ?_
  refine z_getR (r := 37) rfl rfl (hR _ rm_0_11) ?_
  refine z_iload rfl rfl ?_
  refine z_aald (r := 42) rfl rfl (by decide) (by decide) (hR _ rm_37_2) ?_
  refine z_iload rfl rfl ?_
  refine z_callVi (As := [_]) (le := [some _, some _]) rfl rfl rfl (Nat.le_of_ble_eq_true rfl) (Nat.le_of_ble_eq_true rfl) rfl ?_
  refine z_aload rfl rfl ?_
  refine z_getI (v := 2) rfl rfl (hh) ?_
  refine z_if_neT rfl (by decide) (by decide) ?_
  refine z_aload rfl rfl ?_
  refine z_getI (v := 2) rfl rfl (hh) ?_
  refine z_pushI (z := 2) rfl rfl ?_
  refine z_icmp_eqT rfl (by decide) (by decide) (by decide) ?_
  refine z_iload rfl rfl ?_
  refine z_if_lt rfl (by omega) (fun h1 => ?_) (fun h1 => ?_)
  · refine z_pushI (z := (-13)) rfl rfl ?_
    refine z_iret rfl rfl ?_
    show zW _ _ _ _ _ _ _ _ _ _
    refine z_istore rfl rfl ?_
    refine z_iload rfl rfl ?_
    refine z_if_geF rfl (by decide) (by decide) ?_
    refine z_iload rfl rfl ?_
    refine z_iret rfl rfl ?_
    refine ⟨_, rfl, ?_⟩
    show zW _ _ _ _ [some (.ref 50), some (zi 2), some (zi i), some (zl v), none, none, none] _ _ _ _ _
    refine z_aload rfl rfl ?_
    refine z_iload rfl rfl ?_
    refine z_iload rfl rfl ?_
    refine z_callVi (As := [_, _]) (le := [some _, some _, some _]) rfl rfl rfl (Nat.le_of_ble_eq_true rfl) (Nat.le_of_ble_eq_true rfl) rfl ?_
    refine z_iload rfl rfl ?_
    refine z_callSi (As := [_]) (le := [some _]) rfl rfl (Nat.le_of_ble_eq_true rfl) (Nat.le_of_ble_eq_true rfl) rfl ?_
    refine z_iload rfl rfl ?_
    refine z_pushI (z := 0) rfl rfl ?_
    refine z_pushI (z := 5) rfl rfl ?_
    refine z_callSi (As := [_, _, _]) (le := [some _, some _, some _]) rfl rfl (Nat.le_of_ble_eq_true rfl) (Nat.le_of_ble_eq_true rfl) rfl ?_
    refine z_iload rfl rfl ?_
    refine z_iload rfl rfl ?_
    refine z_icmp_ltF rfl (by decide) (by decide) (by decide) ?_
    refine z_iload rfl rfl ?_
    refine z_iload rfl rfl ?_
    refine z_icmp_gtF rfl (by decide) (by decide) (by decide) ?_
    refine z_pushI (z := 1) rfl rfl ?_
    refine z_goto rfl ?_
    refine z_bret rfl rfl (by decide) ?_
    show zW _ _ _ _ _ _ _ _ _ _
    refine z_bret rfl rfl (by decide) ?_
    show zW _ _ _ _ _ _ _ _ _ _
    refine z_if_neT rfl (by decide) (by decide) ?_
    refine z_aload rfl rfl ?_
    refine z_getR (r := 83) rfl rfl (hRr _ rm_50_58 (by decide)) ?_
    refine z_iload rfl rfl ?_
    refine z_iald (v := (-3)) rfl rfl (by decide) (by decide) ((e83.trans (by rw [hso]; rfl))) ?_
    refine z_pushI (z := (-1)) rfl rfl ?_
    refine z_icmp_neT rfl (by decide) (by decide) (by decide) ?_
    refine z_aload rfl rfl ?_
    refine z_getR (r := 83) rfl rfl (hRr _ rm_50_58 (by decide)) ?_
    refine z_iload rfl rfl ?_
    refine z_iald (v := (-3)) rfl rfl (by decide) (by decide) ((e83.trans (by rw [hso]; rfl))) ?_
    refine z_if_ltT rfl (by decide) (by decide) ?_
    refine z_iload rfl rfl ?_
    refine z_pushI (z := 0) rfl rfl ?_
    refine z_aload rfl rfl ?_
    refine z_getR (r := 84) rfl rfl (hRr _ rm_50_59 (by decide)) ?_
    refine z_iload rfl rfl ?_
    refine z_iald (v := J 42 3) rfl rfl (by decide) (by decide) (s7) ?_
    refine z_pushI (z := 1) rfl rfl ?_
    refine z_isub (e := (J 42 3) - 1) rfl rfl ?_
    refine z_callSi (As := [_, _, _]) (le := [some _, some _, some _]) rfl rfl (Nat.le_of_ble_eq_true rfl) (Nat.le_of_ble_eq_true rfl) rfl ?_
    refine z_iload rfl rfl ?_
    refine z_iload rfl rfl ?_
    refine z_icmp_ltT rfl (by omega) (by decide) (by omega) ?_
    refine z_pushI (z := 0) rfl rfl ?_
    refine z_bret rfl rfl (by decide) ?_
    show zW _ _ _ _ _ _ _ _ _ _
    refine z_if_eqT rfl (by decide) (by decide) ?_
    refine z_pushI (z := (-13)) rfl rfl ?_
    refine z_iret rfl rfl ?_
    show zW _ _ _ _ _ _ _ _ _ _
    refine z_istore rfl rfl ?_
    refine z_iload rfl rfl ?_
    refine z_if_geF rfl (by decide) (by decide) ?_
    refine z_iload rfl rfl ?_
    refine z_iret rfl rfl ?_
    refine ⟨?_, ?_⟩
    · first | rfl | exact congrArg (fun v => some (zi v)) (by omega) | (exfalso; omega)
    · exact hr
  · refine z_iload rfl rfl ?_
    refine z_aload rfl rfl ?_
    refine z_getI (v := J 42 3) rfl rfl (rfl) ?_
    refine z_icmp_ge rfl (by omega) (by omega) (fun h2 => ?_) (fun h2 => ?_)
    · refine z_pushI (z := (-13)) rfl rfl ?_
      refine z_iret rfl rfl ?_
      show zW _ _ _ _ _ _ _ _ _ _
      refine z_istore rfl rfl ?_
      refine z_iload rfl rfl ?_
      refine z_if_geF rfl (by decide) (by decide) ?_
      refine z_iload rfl rfl ?_
      refine z_iret rfl rfl ?_
      refine ⟨_, rfl, ?_⟩
      show zW _ _ _ _ [some (.ref 50), some (zi 2), some (zi i), some (zl v), none, none, none] _ _ _ _ _
      refine z_aload rfl rfl ?_
      refine z_iload rfl rfl ?_
      refine z_iload rfl rfl ?_
      refine z_callVi (As := [_, _]) (le := [some _, some _, some _]) rfl rfl rfl (Nat.le_of_ble_eq_true rfl) (Nat.le_of_ble_eq_true rfl) rfl ?_
      refine z_iload rfl rfl ?_
      refine z_callSi (As := [_]) (le := [some _]) rfl rfl (Nat.le_of_ble_eq_true rfl) (Nat.le_of_ble_eq_true rfl) rfl ?_
      refine z_iload rfl rfl ?_
      refine z_pushI (z := 0) rfl rfl ?_
      refine z_pushI (z := 5) rfl rfl ?_
      refine z_callSi (As := [_, _, _]) (le := [some _, some _, some _]) rfl rfl (Nat.le_of_ble_eq_true rfl) (Nat.le_of_ble_eq_true rfl) rfl ?_
      refine z_iload rfl rfl ?_
      refine z_iload rfl rfl ?_
      refine z_icmp_ltF rfl (by decide) (by decide) (by decide) ?_
      refine z_iload rfl rfl ?_
      refine z_iload rfl rfl ?_
      refine z_icmp_gtF rfl (by decide) (by decide) (by decide) ?_
      refine z_pushI (z := 1) rfl rfl ?_
      refine z_goto rfl ?_
      refine z_bret rfl rfl (by decide) ?_
      show zW _ _ _ _ _ _ _ _ _ _
      refine z_bret rfl rfl (by decide) ?_
      show zW _ _ _ _ _ _ _ _ _ _
      refine z_if_neT rfl (by decide) (by decide) ?_
      refine z_aload rfl rfl ?_
      refine z_getR (r := 83) rfl rfl (hRr _ rm_50_58 (by decide)) ?_
      refine z_iload rfl rfl ?_
      refine z_iald (v := (-3)) rfl rfl (by decide) (by decide) ((e83.trans (by rw [hso]; rfl))) ?_
      refine z_pushI (z := (-1)) rfl rfl ?_
      refine z_icmp_neT rfl (by decide) (by decide) (by decide) ?_
      refine z_aload rfl rfl ?_
      refine z_getR (r := 83) rfl rfl (hRr _ rm_50_58 (by decide)) ?_
      refine z_iload rfl rfl ?_
      refine z_iald (v := (-3)) rfl rfl (by decide) (by decide) ((e83.trans (by rw [hso]; rfl))) ?_
      refine z_if_ltT rfl (by decide) (by decide) ?_
      refine z_iload rfl rfl ?_
      refine z_pushI (z := 0) rfl rfl ?_
      refine z_aload rfl rfl ?_
      refine z_getR (r := 84) rfl rfl (hRr _ rm_50_59 (by decide)) ?_
      refine z_iload rfl rfl ?_
      refine z_iald (v := J 42 3) rfl rfl (by decide) (by decide) (s7) ?_
      refine z_pushI (z := 1) rfl rfl ?_
      refine z_isub (e := (J 42 3) - 1) rfl rfl ?_
      refine z_callSi (As := [_, _, _]) (le := [some _, some _, some _]) rfl rfl (Nat.le_of_ble_eq_true rfl) (Nat.le_of_ble_eq_true rfl) rfl ?_
      refine z_iload rfl rfl ?_
      refine z_iload rfl rfl ?_
      refine z_icmp_ltF rfl (by omega) (by decide) (by omega) ?_
      refine z_iload rfl rfl ?_
      refine z_iload rfl rfl ?_
      refine z_icmp_gtT rfl (by omega) (by omega) (by omega) ?_
      refine z_pushI (z := 0) rfl rfl ?_
      refine z_bret rfl rfl (by decide) ?_
      show zW _ _ _ _ _ _ _ _ _ _
      refine z_if_eqT rfl (by decide) (by decide) ?_
      refine z_pushI (z := (-13)) rfl rfl ?_
      refine z_iret rfl rfl ?_
      show zW _ _ _ _ _ _ _ _ _ _
      refine z_istore rfl rfl ?_
      refine z_iload rfl rfl ?_
      refine z_if_geF rfl (by decide) (by decide) ?_
      refine z_iload rfl rfl ?_
      refine z_iret rfl rfl ?_
      refine ⟨?_, ?_⟩
      · first | rfl | exact congrArg (fun v => some (zi v)) (by omega) | (exfalso; omega)
      · exact hr
    · refine z_pushI (z := 0) rfl rfl ?_
      refine z_goto rfl ?_
      refine z_iret rfl rfl ?_
      show zW _ _ _ _ _ _ _ _ _ _
      refine z_istore rfl rfl ?_
      refine z_iload rfl rfl ?_
      refine z_if_geT rfl (by decide) (by decide) ?_
      refine z_aload rfl rfl ?_
      refine z_getR (r := 37) rfl rfl (hR _ rm_0_11) ?_
      refine z_iload rfl rfl ?_
      refine z_aald (r := 42) rfl rfl (by decide) (by decide) (hR _ rm_37_2) ?_
      refine z_iload rfl rfl ?_
      refine z_lload rfl rfl ?_
      refine z_callVi (As := [_, _]) (le := [some _, some _, some _, none]) rfl rfl rfl (Nat.le_of_ble_eq_true rfl) (Nat.le_of_ble_eq_true rfl) rfl ?_
      refine z_iload rfl rfl ?_
      refine z_if_ltF rfl (by omega) (by omega) ?_
      refine z_iload rfl rfl ?_
      refine z_aload rfl rfl ?_
      refine z_getI (v := J 42 3) rfl rfl (rfl) ?_
      refine z_icmp_geF rfl (by omega) (by omega) (by omega) ?_
      refine z_aload rfl rfl ?_
      refine z_getR (r := 43) rfl rfl (hR _ rm_42_4) ?_
      refine z_iload rfl rfl ?_
      refine z_aload rfl rfl ?_
      refine z_lload rfl rfl ?_
      refine z_callVi (As := [_]) (le := [some _, some _, none]) rfl rfl rfl (Nat.le_of_ble_eq_true rfl) (Nat.le_of_ble_eq_true rfl) rfl ?_
      refine z_aload rfl rfl ?_
      refine z_getI (v := 1) rfl rfl (hso) ?_
      refine z_swI (tg := 45) rfl (by decide) (T := [((0 : Int), 40), ((1 : Int), 45), ((2 : Int), 50), ((3 : Int), 66), ((4 : Int), 54)]) rfl (by decide) ?_
      refine z_lload rfl rfl ?_
      refine z_l2i rfl ?_
      refine z_i2s (e := zh v) rfl rfl ?_
      have q3 := zh_r v
      refine z_i2l rfl (by omega) ?_
      refine z_lret rfl rfl ?_
      show zW _ _ _ _ _ _ _ _ _ _
      refine z_last (e := zh v) rfl rfl (by decide) (by omega) rfl ?_
      refine z_vret rfl rfl ?_
      show zW _ _ _ _ _ _ _ _ _ _
      refine z_pushI (z := 1) rfl rfl ?_
      refine z_iret rfl rfl ?_
      refine ⟨_, rfl, ?_⟩
      show zW _ _ _ _ [some (.ref 50), some (zi 2), some (zi i), some (zl v), none, none, none] _ _ _ _ _
      refine z_aload rfl rfl ?_
      refine z_iload rfl rfl ?_
      refine z_iload rfl rfl ?_
      refine z_callVi (As := [_, _]) (le := [some _, some _, some _]) rfl rfl rfl (Nat.le_of_ble_eq_true rfl) (Nat.le_of_ble_eq_true rfl) rfl ?_
      refine z_iload rfl rfl ?_
      refine z_callSi (As := [_]) (le := [some _]) rfl rfl (Nat.le_of_ble_eq_true rfl) (Nat.le_of_ble_eq_true rfl) rfl ?_
      refine z_iload rfl rfl ?_
      refine z_pushI (z := 0) rfl rfl ?_
      refine z_pushI (z := 5) rfl rfl ?_
      refine z_callSi (As := [_, _, _]) (le := [some _, some _, some _]) rfl rfl (Nat.le_of_ble_eq_true rfl) (Nat.le_of_ble_eq_true rfl) rfl ?_
      refine z_iload rfl rfl ?_
      refine z_iload rfl rfl ?_
      refine z_icmp_ltF rfl (by decide) (by decide) (by decide) ?_
      refine z_iload rfl rfl ?_
      refine z_iload rfl rfl ?_
      refine z_icmp_gtF rfl (by decide) (by decide) (by decide) ?_
      refine z_pushI (z := 1) rfl rfl ?_
      refine z_goto rfl ?_
      refine z_bret rfl rfl (by decide) ?_
      show zW _ _ _ _ _ _ _ _ _ _
      refine z_bret rfl rfl (by decide) ?_
      show zW _ _ _ _ _ _ _ _ _ _
      refine z_if_neT rfl (by decide) (by decide) ?_
      refine z_aload rfl rfl ?_
      refine z_getR (r := 83) rfl rfl (hRr _ rm_50_58 (by decide)) ?_
      refine z_iload rfl rfl ?_
      refine z_iald (v := (-3)) rfl rfl (by decide) (by decide) ((e83.trans (by rw [hso]; rfl))) ?_
      refine z_pushI (z := (-1)) rfl rfl ?_
      refine z_icmp_neT rfl (by decide) (by decide) (by decide) ?_
      refine z_aload rfl rfl ?_
      refine z_getR (r := 83) rfl rfl (hRr _ rm_50_58 (by decide)) ?_
      refine z_iload rfl rfl ?_
      refine z_iald (v := (-3)) rfl rfl (by decide) (by decide) ((e83.trans (by rw [hso]; rfl))) ?_
      refine z_if_ltT rfl (by decide) (by decide) ?_
      refine z_iload rfl rfl ?_
      refine z_pushI (z := 0) rfl rfl ?_
      refine z_aload rfl rfl ?_
      refine z_getR (r := 84) rfl rfl (hRr _ rm_50_59 (by decide)) ?_
      refine z_iload rfl rfl ?_
      refine z_iald (v := J 42 3) rfl rfl (by decide) (by decide) (s7) ?_
      refine z_pushI (z := 1) rfl rfl ?_
      refine z_isub (e := (J 42 3) - 1) rfl rfl ?_
      refine z_callSi (As := [_, _, _]) (le := [some _, some _, some _]) rfl rfl (Nat.le_of_ble_eq_true rfl) (Nat.le_of_ble_eq_true rfl) rfl ?_
      refine z_iload rfl rfl ?_
      refine z_iload rfl rfl ?_
      refine z_icmp_ltF rfl (by omega) (by decide) (by omega) ?_
      refine z_iload rfl rfl ?_
      refine z_iload rfl rfl ?_
      refine z_icmp_gtF rfl (by omega) (by omega) (by omega) ?_
      refine z_pushI (z := 1) rfl rfl ?_
      refine z_goto rfl ?_
      refine z_bret rfl rfl (by decide) ?_
      show zW _ _ _ _ _ _ _ _ _ _
      refine z_if_eqF rfl (by decide) (by decide) ?_
      refine z_pushI (z := 0) rfl rfl ?_
      refine z_goto rfl ?_
      refine z_iret rfl rfl ?_
      show zW _ _ _ _ _ _ _ _ _ _
      refine z_istore rfl rfl ?_
      refine z_iload rfl rfl ?_
      refine z_if_geT rfl (by decide) (by decide) ?_
      refine z_pushI (z := (-2)) rfl rfl ?_
      refine z_aload rfl rfl ?_
      refine z_getR (r := 83) rfl rfl (hRr _ rm_50_58 (by decide)) ?_
      refine z_iload rfl rfl ?_
      refine z_iald (v := (-3)) rfl rfl (by decide) (by decide) ((e83.trans (by rw [hso]; rfl))) ?_
      refine z_isub (e := 1) rfl rfl ?_
      refine z_istore rfl rfl ?_
      refine z_aload rfl rfl ?_
      refine z_getR (r := 85) rfl rfl (hRr _ rm_50_60 (by decide)) ?_
      refine z_pushI (z := 60) rfl rfl ?_
      refine z_iload rfl rfl ?_
      refine z_imul (e := 120) rfl rfl ?_
      refine z_iload rfl rfl ?_
      refine z_iadd (e := 120 + i) rfl rfl ?_
      refine z_iload rfl rfl ?_
      refine z_if_neT rfl (by decide) (by decide) ?_
      refine z_iload rfl rfl ?_
      refine z_pushI (z := 1) rfl rfl ?_
      refine z_icmp_neF rfl (by decide) (by decide) (by decide) ?_
      refine z_lload rfl rfl ?_
      refine z_l2i rfl ?_
      refine z_i2s (e := zh v) rfl rfl ?_
      have q4 := zh_r v
      refine z_i2l rfl (by omega) ?_
      refine z_goto rfl ?_
      refine z_last (e := zh v) rfl rfl (by decide) (by omega) rfl ?_
      refine z_pushI (z := 1) rfl rfl ?_
      refine z_iret rfl rfl ?_
      refine ⟨?_, ?_⟩
      · first | rfl | exact congrArg (fun v => some (zi v)) (by omega) | (exfalso; omega)
      · have hk := (zK_r (k := (kL [] [])) (A := J))
        have hkm := (zK_x (a := 85) (x := 120 + i) (v := zh v) (zK_x (a := 43) (x := i) (v := zh v) (zK_r (k := (kL [43, 85] [])) (A := M)) rfl) rfl)
        exact ⟨hR, hG, RelY_k hk (by repeat' constructor) (fun p => by repeat' constructor) hY, RelD_k hk (by repeat' constructor) (fun p => by repeat' constructor) hD, RelP_k hk (by repeat' constructor) (fun p => by repeat' constructor) hP, RelC_k hk (by repeat' constructor) (fun p => by repeat' constructor) hC, RelA_k hk (by repeat' constructor) (fun p => by repeat' constructor) hAc, (RelS_one (J := J) (M := M) (c := 2) (fun t t1 t2 te => by have q : t = 0 ∨ t = 1 ∨ t = 2 ∨ t = 3 ∨ t = 4 ∨ t = 5 := (by omega); rcases q with rfl | rfl | rfl | rfl | rfl | rfl <;> first | exact absurd rfl te | exact ⟨fun j => rfl, rfl, rfl⟩) (fun t t1 t2 te => by have q : t = 0 ∨ t = 1 ∨ t = 2 ∨ t = 3 ∨ t = 4 ∨ t = 5 := (by omega); rcases q with rfl | rfl | rfl | rfl | rfl | rfl <;> first | exact absurd rfl te | exact ⟨fun j => rfl, fun j j1 j2 => (zU_x (by omega)).trans (zU_n (by decide))⟩) rfl (show RelS1 _ _ _ from ⟨(hS 2 (by decide) (by decide)).1, (hS 2 (by decide) (by decide)).2.1, s3, s4, (hS 2 (by decide) (by decide)).2.2.2.2.1, fun _ => ⟨s7.symm, fun k k1 k2 => by show (if k = i then zh v else M 43 k) = (if 120 + k = 120 + i then zh v else M 85 (120 + k)); by_cases e : k = i; rw [if_pos e, if_pos (by omega)]; rw [if_neg e, if_neg (by omega)]; exact s8 k k1 k2, (fun hq => absurd (Eq.trans (Eq.symm hq) hso) (by decide))⟩⟩) hS), RelT_k hk (by repeat' constructor) (fun p => by repeat' constructor) hTp, RelX_k hk (by repeat' constructor) (fun p => by repeat' constructor) hX, RelW_k hk ⟨rfl, rfl⟩ trivial hW⟩
theorem st_put_222 {X : Nat × (Nat → Int32)} {d : Nat} {J M : zA} {R : zR} {i v : Int} (hr : Rel X J M R) (hi : -2147483648 ≤ i ∧ i < 2147483648) (hv : -9223372036854775808 ≤ v ∧ v < 9223372036854775808) (hh : J 42 0 = 2) (hso : J 42 2 = 2) : zW X (d + 20) 138 0 (gEn 138 [(.ref 0), (zi 2), (zi i), (zl v)]) [] J M R (stP X (d + 20) 252 [(zi 2), (zi i), (zl v)]) := by
  have hr0 := hr
  obtain ⟨hR, hG, hY, hD, hP, hC, hAc, hS, hTp, hX, hW⟩ := hr0
  have hRr : zRoR R := zRoR_of hR
  have e83 : J 83 2 = -2 - J 42 2 := (hS 2 (by decide) (by decide)).1.symm.trans (cH_2 hh)
  have s3 : 0 ≤ J 42 2 ∧ J 42 2 ≤ 4 := (hS 2 (by decide) (by decide)).2.2.1
  have s4 : 0 ≤ J 42 3 ∧ J 42 3 ≤ 60 := (hS 2 (by decide) (by decide)).2.2.2.1
  have s6 := (hS 2 (by decide) (by decide)).2.2.2.2.2 hh
  have s7 : J 84 2 = J 42 3 := s6.1.symm
  have s8 : ∀ i, 0 ≤ i → i < J 42 3 → M 43 i = M 85 (120 + i) := s6.2.1
  show zW _ _ _ _ [some (.ref 0), some (zi 2), some (zi i), some (zl v), none, none] _ _ _ _ _
  refine z_iload rfl rfl ?_
  refine z_callSi (As := [_]) (le := [some _]) rfl rfl (Nat.le_of_ble_eq_true rfl) (Nat.le_of_ble_eq_true rfl) rfl ?_
  refine z_iload rfl rfl ?_
  refine z_if_ltF rfl (by decide) (by decide) ?_
  refine z_iload rfl rfl ?_
  refine z_pushI (z := 6) rfl rfl ?_
  refine z_icmp_geF rfl (by decide) (by decide) (by decide) ?_
  refine z_pushI (z := 1) rfl rfl ?_
  refine z_goto rfl ?_
  refine z_bret rfl rfl (by decide) ?_
  show zW _ _ _ _ _ _ _ _ _ _
  refine z_if_neT rfl (by decide) (by decide) ?_
  refine z_aload rfl rfl ?_
  refine z_getR (r := 37) rfl rfl (hR _ rm_0_11) ?_
  refine z_iload rfl rfl ?_
  refine z_aald (r := 42) rfl rfl (by decide) (by decide) (hR _ rm_37_2) ?_
  refine z_iload rfl rfl ?_
  refine z_callVi (As := [_]) (le := [some _, some _]) rfl rfl rfl (Nat.le_of_ble_eq_true rfl) (Nat.le_of_ble_eq_true rfl) rfl ?_
  refine z_aload rfl rfl ?_
  refine z_getI (v := 2) rfl rfl (hh) ?_
  refine z_if_neT rfl (by decide) (by decide) ?_
  refine z_aload rfl rfl ?_
  refine z_getI (v := 2) rfl rfl (hh) ?_
  refine z_pushI (z := 2) rfl rfl ?_
  refine z_icmp_eqT rfl (by decide) (by decide) (by decide) ?_
  refine z_iload rfl rfl ?_
  refine z_if_lt rfl (by omega) (fun h1 => ?_) (fun h1 => ?_)
  · refine z_pushI (z := (-13)) rfl rfl ?_
    refine z_iret rfl rfl ?_
    show zW _ _ _ _ _ _ _ _ _ _
    refine z_istore rfl rfl ?_
    refine z_iload rfl rfl ?_
    refine z_if_geF rfl (by decide) (by decide) ?_
    refine z_iload rfl rfl ?_
    refine z_iret rfl rfl ?_
    refine ⟨_, rfl, ?_⟩
    show zW _ _ _ _ [some (.ref 50), some (zi 2), some (zi i), some (zl v), none, none, none] _ _ _ _ _
    refine z_aload rfl rfl ?_
    refine z_iload rfl rfl ?_
    refine z_iload rfl rfl ?_
    refine z_callVi (As := [_, _]) (le := [some _, some _, some _]) rfl rfl rfl (Nat.le_of_ble_eq_true rfl) (Nat.le_of_ble_eq_true rfl) rfl ?_
    refine z_iload rfl rfl ?_
    refine z_callSi (As := [_]) (le := [some _]) rfl rfl (Nat.le_of_ble_eq_true rfl) (Nat.le_of_ble_eq_true rfl) rfl ?_
    refine z_iload rfl rfl ?_
    refine z_pushI (z := 0) rfl rfl ?_
    refine z_pushI (z := 5) rfl rfl ?_
    refine z_callSi (As := [_, _, _]) (le := [some _, some _, some _]) rfl rfl (Nat.le_of_ble_eq_true rfl) (Nat.le_of_ble_eq_true rfl) rfl ?_
    refine z_iload rfl rfl ?_
    refine z_iload rfl rfl ?_
    refine z_icmp_ltF rfl (by decide) (by decide) (by decide) ?_
    refine z_iload rfl rfl ?_
    refine z_iload rfl rfl ?_
    refine z_icmp_gtF rfl (by decide) (by decide) (by decide) ?_
    refine z_pushI (z := 1) rfl rfl ?_
    refine z_goto rfl ?_
    refine z_bret rfl rfl (by decide) ?_
    show zW _ _ _ _ _ _ _ _ _ _
    refine z_bret rfl rfl (by decide) ?_
    show zW _ _ _ _ _ _ _ _ _ _
    refine z_if_neT rfl (by decide) (by decide) ?_
    refine z_aload rfl rfl ?_
    refine z_getR (r := 83) rfl rfl (hRr _ rm_50_58 (by decide)) ?_
    refine z_iload rfl rfl ?_
    refine z_iald (v := (-4)) rfl rfl (by decide) (by decide) ((e83.trans (by rw [hso]; rfl))) ?_
    refine z_pushI (z := (-1)) rfl rfl ?_
    refine z_icmp_neT rfl (by decide) (by decide) (by decide) ?_
    refine z_aload rfl rfl ?_
    refine z_getR (r := 83) rfl rfl (hRr _ rm_50_58 (by decide)) ?_
    refine z_iload rfl rfl ?_
    refine z_iald (v := (-4)) rfl rfl (by decide) (by decide) ((e83.trans (by rw [hso]; rfl))) ?_
    refine z_if_ltT rfl (by decide) (by decide) ?_
    refine z_iload rfl rfl ?_
    refine z_pushI (z := 0) rfl rfl ?_
    refine z_aload rfl rfl ?_
    refine z_getR (r := 84) rfl rfl (hRr _ rm_50_59 (by decide)) ?_
    refine z_iload rfl rfl ?_
    refine z_iald (v := J 42 3) rfl rfl (by decide) (by decide) (s7) ?_
    refine z_pushI (z := 1) rfl rfl ?_
    refine z_isub (e := (J 42 3) - 1) rfl rfl ?_
    refine z_callSi (As := [_, _, _]) (le := [some _, some _, some _]) rfl rfl (Nat.le_of_ble_eq_true rfl) (Nat.le_of_ble_eq_true rfl) rfl ?_
    refine z_iload rfl rfl ?_
    refine z_iload rfl rfl ?_
    refine z_icmp_ltT rfl (by omega) (by decide) (by omega) ?_
    refine z_pushI (z := 0) rfl rfl ?_
    refine z_bret rfl rfl (by decide) ?_
    show zW _ _ _ _ _ _ _ _ _ _
    refine z_if_eqT rfl (by decide) (by decide) ?_
    refine z_pushI (z := (-13)) rfl rfl ?_
    refine z_iret rfl rfl ?_
    show zW _ _ _ _ _ _ _ _ _ _
    refine z_istore rfl rfl ?_
    refine z_iload rfl rfl ?_
    refine z_if_geF rfl (by decide) (by decide) ?_
    refine z_iload rfl rfl ?_
    refine z_iret rfl rfl ?_
    refine ⟨?_, ?_⟩
    · first | rfl | exact congrArg (fun v => some (zi v)) (by omega) | (exfalso; omega)
    · exact hr
  · refine z_iload rfl rfl ?_
    refine z_aload rfl rfl ?_
    refine z_getI (v := J 42 3) rfl rfl (rfl) ?_
    refine z_icmp_ge rfl (by omega) (by omega) (fun h2 => ?_) (fun h2 => ?_)
    · refine z_pushI (z := (-13)) rfl rfl ?_
      refine z_iret rfl rfl ?_
      show zW _ _ _ _ _ _ _ _ _ _
      refine z_istore rfl rfl ?_
      refine z_iload rfl rfl ?_
      refine z_if_geF rfl (by decide) (by decide) ?_
      refine z_iload rfl rfl ?_
      refine z_iret rfl rfl ?_
      refine ⟨_, rfl, ?_⟩
      show zW _ _ _ _ [some (.ref 50), some (zi 2), some (zi i), some (zl v), none, none, none] _ _ _ _ _
      refine z_aload rfl rfl ?_
      refine z_iload rfl rfl ?_
      refine z_iload rfl rfl ?_
      refine z_callVi (As := [_, _]) (le := [some _, some _, some _]) rfl rfl rfl (Nat.le_of_ble_eq_true rfl) (Nat.le_of_ble_eq_true rfl) rfl ?_
      refine z_iload rfl rfl ?_
      refine z_callSi (As := [_]) (le := [some _]) rfl rfl (Nat.le_of_ble_eq_true rfl) (Nat.le_of_ble_eq_true rfl) rfl ?_
      refine z_iload rfl rfl ?_
      refine z_pushI (z := 0) rfl rfl ?_
      refine z_pushI (z := 5) rfl rfl ?_
      refine z_callSi (As := [_, _, _]) (le := [some _, some _, some _]) rfl rfl (Nat.le_of_ble_eq_true rfl) (Nat.le_of_ble_eq_true rfl) rfl ?_
      refine z_iload rfl rfl ?_
      refine z_iload rfl rfl ?_
      refine z_icmp_ltF rfl (by decide) (by decide) (by decide) ?_
      refine z_iload rfl rfl ?_
      refine z_iload rfl rfl ?_
      refine z_icmp_gtF rfl (by decide) (by decide) (by decide) ?_
      refine z_pushI (z := 1) rfl rfl ?_
      refine z_goto rfl ?_
      refine z_bret rfl rfl (by decide) ?_
      show zW _ _ _ _ _ _ _ _ _ _
      refine z_bret rfl rfl (by decide) ?_
      show zW _ _ _ _ _ _ _ _ _ _
      refine z_if_neT rfl (by decide) (by decide) ?_
      refine z_aload rfl rfl ?_
      refine z_getR (r := 83) rfl rfl (hRr _ rm_50_58 (by decide)) ?_
      refine z_iload rfl rfl ?_
      refine z_iald (v := (-4)) rfl rfl (by decide) (by decide) ((e83.trans (by rw [hso]; rfl))) ?_
      refine z_pushI (z := (-1)) rfl rfl ?_
      refine z_icmp_neT rfl (by decide) (by decide) (by decide) ?_
      refine z_aload rfl rfl ?_
      refine z_getR (r := 83) rfl rfl (hRr _ rm_50_58 (by decide)) ?_
      refine z_iload rfl rfl ?_
      refine z_iald (v := (-4)) rfl rfl (by decide) (by decide) ((e83.trans (by rw [hso]; rfl))) ?_
      refine z_if_ltT rfl (by decide) (by decide) ?_
      refine z_iload rfl rfl ?_
      refine z_pushI (z := 0) rfl rfl ?_
      refine z_aload rfl rfl ?_
      refine z_getR (r := 84) rfl rfl (hRr _ rm_50_59 (by decide)) ?_
      refine z_iload rfl rfl ?_
      refine z_iald (v := J 42 3) rfl rfl (by decide) (by decide) (s7) ?_
      refine z_pushI (z := 1) rfl rfl ?_
      refine z_isub (e := (J 42 3) - 1) rfl rfl ?_
      refine z_callSi (As := [_, _, _]) (le := [some _, some _, some _]) rfl rfl (Nat.le_of_ble_eq_true rfl) (Nat.le_of_ble_eq_true rfl) rfl ?_
      refine z_iload rfl rfl ?_
      refine z_iload rfl rfl ?_
      refine z_icmp_ltF rfl (by omega) (by decide) (by omega) ?_
      refine z_iload rfl rfl ?_
      refine z_iload rfl rfl ?_
      refine z_icmp_gtT rfl (by omega) (by omega) (by omega) ?_
      refine z_pushI (z := 0) rfl rfl ?_
      refine z_bret rfl rfl (by decide) ?_
      show zW _ _ _ _ _ _ _ _ _ _
      refine z_if_eqT rfl (by decide) (by decide) ?_
      refine z_pushI (z := (-13)) rfl rfl ?_
      refine z_iret rfl rfl ?_
      show zW _ _ _ _ _ _ _ _ _ _
      refine z_istore rfl rfl ?_
      refine z_iload rfl rfl ?_
      refine z_if_geF rfl (by decide) (by decide) ?_
      refine z_iload rfl rfl ?_
      refine z_iret rfl rfl ?_
      refine ⟨?_, ?_⟩
      · first | rfl | exact congrArg (fun v => some (zi v)) (by omega) | (exfalso; omega)
      · exact hr
    · refine z_pushI (z := 0) rfl rfl ?_
      refine z_goto rfl ?_
      refine z_iret rfl rfl ?_
      show zW _ _ _ _ _ _ _ _ _ _
      refine z_istore rfl rfl ?_
      refine z_iload rfl rfl ?_
      refine z_if_geT rfl (by decide) (by decide) ?_
      refine z_aload rfl rfl ?_
      refine z_getR (r := 37) rfl rfl (hR _ rm_0_11) ?_
      refine z_iload rfl rfl ?_
      refine z_aald (r := 42) rfl rfl (by decide) (by decide) (hR _ rm_37_2) ?_
      refine z_iload rfl rfl ?_
      refine z_lload rfl rfl ?_
      refine z_callVi (As := [_, _]) (le := [some _, some _, some _, none]) rfl rfl rfl (Nat.le_of_ble_eq_true rfl) (Nat.le_of_ble_eq_true rfl) rfl ?_
      refine z_iload rfl rfl ?_
      refine z_if_ltF rfl (by omega) (by omega) ?_
      refine z_iload rfl rfl ?_
      refine z_aload rfl rfl ?_
      refine z_getI (v := J 42 3) rfl rfl (rfl) ?_
      refine z_icmp_geF rfl (by omega) (by omega) (by omega) ?_
      refine z_aload rfl rfl ?_
      refine z_getR (r := 43) rfl rfl (hR _ rm_42_4) ?_
      refine z_iload rfl rfl ?_
      refine z_aload rfl rfl ?_
      refine z_lload rfl rfl ?_
      refine z_callVi (As := [_]) (le := [some _, some _, none]) rfl rfl rfl (Nat.le_of_ble_eq_true rfl) (Nat.le_of_ble_eq_true rfl) rfl ?_
      refine z_aload rfl rfl ?_
      refine z_getI (v := 2) rfl rfl (hso) ?_
      refine z_swI (tg := 50) rfl (by decide) (T := [((0 : Int), 40), ((1 : Int), 45), ((2 : Int), 50), ((3 : Int), 66), ((4 : Int), 54)]) rfl (by decide) ?_
      refine z_lload rfl rfl ?_
      refine z_l2i rfl ?_
      refine z_topn (e := zn v) rfl ?_
      have q3 := zn_r v
      refine z_i2l rfl (by omega) ?_
      refine z_lret rfl rfl ?_
      show zW _ _ _ _ _ _ _ _ _ _
      refine z_last (e := zn v) rfl rfl (by decide) (by omega) rfl ?_
      refine z_vret rfl rfl ?_
      show zW _ _ _ _ _ _ _ _ _ _
      refine z_pushI (z := 1) rfl rfl ?_
      refine z_iret rfl rfl ?_
      refine ⟨_, rfl, ?_⟩
      show zW _ _ _ _ [some (.ref 50), some (zi 2), some (zi i), some (zl v), none, none, none] _ _ _ _ _
      refine z_aload rfl rfl ?_
      refine z_iload rfl rfl ?_
      refine z_iload rfl rfl ?_
      refine z_callVi (As := [_, _]) (le := [some _, some _, some _]) rfl rfl rfl (Nat.le_of_ble_eq_true rfl) (Nat.le_of_ble_eq_true rfl) rfl ?_
      refine z_iload rfl rfl ?_
      refine z_callSi (As := [_]) (le := [some _]) rfl rfl (Nat.le_of_ble_eq_true rfl) (Nat.le_of_ble_eq_true rfl) rfl ?_
      refine z_iload rfl rfl ?_
      refine z_pushI (z := 0) rfl rfl ?_
      refine z_pushI (z := 5) rfl rfl ?_
      refine z_callSi (As := [_, _, _]) (le := [some _, some _, some _]) rfl rfl (Nat.le_of_ble_eq_true rfl) (Nat.le_of_ble_eq_true rfl) rfl ?_
      refine z_iload rfl rfl ?_
      refine z_iload rfl rfl ?_
      refine z_icmp_ltF rfl (by decide) (by decide) (by decide) ?_
      refine z_iload rfl rfl ?_
      refine z_iload rfl rfl ?_
      refine z_icmp_gtF rfl (by decide) (by decide) (by decide) ?_
      refine z_pushI (z := 1) rfl rfl ?_
      refine z_goto rfl ?_
      refine z_bret rfl rfl (by decide) ?_
      show zW _ _ _ _ _ _ _ _ _ _
      refine z_bret rfl rfl (by decide) ?_
      show zW _ _ _ _ _ _ _ _ _ _
      refine z_if_neT rfl (by decide) (by decide) ?_
      refine z_aload rfl rfl ?_
      refine z_getR (r := 83) rfl rfl (hRr _ rm_50_58 (by decide)) ?_
      refine z_iload rfl rfl ?_
      refine z_iald (v := (-4)) rfl rfl (by decide) (by decide) ((e83.trans (by rw [hso]; rfl))) ?_
      refine z_pushI (z := (-1)) rfl rfl ?_
      refine z_icmp_neT rfl (by decide) (by decide) (by decide) ?_
      refine z_aload rfl rfl ?_
      refine z_getR (r := 83) rfl rfl (hRr _ rm_50_58 (by decide)) ?_
      refine z_iload rfl rfl ?_
      refine z_iald (v := (-4)) rfl rfl (by decide) (by decide) ((e83.trans (by rw [hso]; rfl))) ?_
      refine z_if_ltT rfl (by decide) (by decide) ?_
      refine z_iload rfl rfl ?_
      refine z_pushI (z := 0) rfl rfl ?_
      refine z_aload rfl rfl ?_
      refine z_getR (r := 84) rfl rfl (hRr _ rm_50_59 (by decide)) ?_
      refine z_iload rfl rfl ?_
      refine z_iald (v := J 42 3) rfl rfl (by decide) (by decide) (s7) ?_
      refine z_pushI (z := 1) rfl rfl ?_
      refine z_isub (e := (J 42 3) - 1) rfl rfl ?_
      refine z_callSi (As := [_, _, _]) (le := [some _, some _, some _]) rfl rfl (Nat.le_of_ble_eq_true rfl) (Nat.le_of_ble_eq_true rfl) rfl ?_
      refine z_iload rfl rfl ?_
      refine z_iload rfl rfl ?_
      refine z_icmp_ltF rfl (by omega) (by decide) (by omega) ?_
      refine z_iload rfl rfl ?_
      refine z_iload rfl rfl ?_
      refine z_icmp_gtF rfl (by omega) (by omega) (by omega) ?_
      refine z_pushI (z := 1) rfl rfl ?_
      refine z_goto rfl ?_
      refine z_bret rfl rfl (by decide) ?_
      show zW _ _ _ _ _ _ _ _ _ _
      refine z_if_eqF rfl (by decide) (by decide) ?_
      refine z_pushI (z := 0) rfl rfl ?_
      refine z_goto rfl ?_
      refine z_iret rfl rfl ?_
      show zW _ _ _ _ _ _ _ _ _ _
      refine z_istore rfl rfl ?_
      refine z_iload rfl rfl ?_
      refine z_if_geT rfl (by decide) (by decide) ?_
      refine z_pushI (z := (-2)) rfl rfl ?_
      refine z_aload rfl rfl ?_
      refine z_getR (r := 83) rfl rfl (hRr _ rm_50_58 (by decide)) ?_
      refine z_iload rfl rfl ?_
      refine z_iald (v := (-4)) rfl rfl (by decide) (by decide) ((e83.trans (by rw [hso]; rfl))) ?_
      refine z_isub (e := 2) rfl rfl ?_
      refine z_istore rfl rfl ?_
      refine z_aload rfl rfl ?_
      refine z_getR (r := 85) rfl rfl (hRr _ rm_50_60 (by decide)) ?_
      refine z_pushI (z := 60) rfl rfl ?_
      refine z_iload rfl rfl ?_
      refine z_imul (e := 120) rfl rfl ?_
      refine z_iload rfl rfl ?_
      refine z_iadd (e := 120 + i) rfl rfl ?_
      refine z_iload rfl rfl ?_
      refine z_if_neT rfl (by decide) (by decide) ?_
      refine z_iload rfl rfl ?_
      refine z_pushI (z := 1) rfl rfl ?_
      refine z_icmp_neT rfl (by decide) (by decide) (by decide) ?_
      refine z_iload rfl rfl ?_
      refine z_pushI (z := 2) rfl rfl ?_
      refine z_icmp_neF rfl (by decide) (by decide) (by decide) ?_
      refine z_lload rfl rfl ?_
      refine z_l2i rfl ?_
      refine z_topn (e := zn v) rfl ?_
      have q4 := zn_r v
      refine z_i2l rfl (by omega) ?_
      refine z_goto rfl ?_
      refine z_last (e := zn v) rfl rfl (by decide) (by omega) rfl ?_
      refine z_pushI (z := 1) rfl rfl ?_
      refine z_iret rfl rfl ?_
      refine ⟨?_, ?_⟩
      · first | rfl | exact congrArg (fun v => some (zi v)) (by omega) | (exfalso; omega)
      · have hk := (zK_r (k := (kL [] [])) (A := J))
        have hkm := (zK_x (a := 85) (x := 120 + i) (v := zn v) (zK_x (a := 43) (x := i) (v := zn v) (zK_r (k := (kL [43, 85] [])) (A := M)) rfl) rfl)
        exact ⟨hR, hG, RelY_k hk (by repeat' constructor) (fun p => by repeat' constructor) hY, RelD_k hk (by repeat' constructor) (fun p => by repeat' constructor) hD, RelP_k hk (by repeat' constructor) (fun p => by repeat' constructor) hP, RelC_k hk (by repeat' constructor) (fun p => by repeat' constructor) hC, RelA_k hk (by repeat' constructor) (fun p => by repeat' constructor) hAc, (RelS_one (J := J) (M := M) (c := 2) (fun t t1 t2 te => by have q : t = 0 ∨ t = 1 ∨ t = 2 ∨ t = 3 ∨ t = 4 ∨ t = 5 := (by omega); rcases q with rfl | rfl | rfl | rfl | rfl | rfl <;> first | exact absurd rfl te | exact ⟨fun j => rfl, rfl, rfl⟩) (fun t t1 t2 te => by have q : t = 0 ∨ t = 1 ∨ t = 2 ∨ t = 3 ∨ t = 4 ∨ t = 5 := (by omega); rcases q with rfl | rfl | rfl | rfl | rfl | rfl <;> first | exact absurd rfl te | exact ⟨fun j => rfl, fun j j1 j2 => (zU_x (by omega)).trans (zU_n (by decide))⟩) rfl (show RelS1 _ _ _ from ⟨(hS 2 (by decide) (by decide)).1, (hS 2 (by decide) (by decide)).2.1, s3, s4, (hS 2 (by decide) (by decide)).2.2.2.2.1, fun _ => ⟨s7.symm, fun k k1 k2 => by show (if k = i then zn v else M 43 k) = (if 120 + k = 120 + i then zn v else M 85 (120 + k)); by_cases e : k = i; rw [if_pos e, if_pos (by omega)]; rw [if_neg e, if_neg (by omega)]; exact s8 k k1 k2, (fun hq => absurd (Eq.trans (Eq.symm hq) hso) (by decide))⟩⟩) hS), RelT_k hk (by repeat' constructor) (fun p => by repeat' constructor) hTp, RelX_k hk (by repeat' constructor) (fun p => by repeat' constructor) hX, RelW_k hk ⟨rfl, rfl⟩ trivial hW⟩
theorem st_put_223 {X : Nat × (Nat → Int32)} {d : Nat} {J M : zA} {R : zR} {i v : Int} (hr : Rel X J M R) (hi : -2147483648 ≤ i ∧ i < 2147483648) (hv : -9223372036854775808 ≤ v ∧ v < 9223372036854775808) (hh : J 42 0 = 2) (hso : J 42 2 = 3) : zW X (d + 20) 138 0 (gEn 138 [(.ref 0), (zi 2), (zi i), (zl v)]) [] J M R (stP X (d + 20) 252 [(zi 2), (zi i), (zl v)]) := by
  have hr0 := hr
  obtain ⟨hR, hG, hY, hD, hP, hC, hAc, hS, hTp, hX, hW⟩ := hr0
  have hRr : zRoR R := zRoR_of hR
  have e83 : J 83 2 = -2 - J 42 2 := (hS 2 (by decide) (by decide)).1.symm.trans (cH_2 hh)
  have s3 : 0 ≤ J 42 2 ∧ J 42 2 ≤ 4 := (hS 2 (by decide) (by decide)).2.2.1
  have s4 : 0 ≤ J 42 3 ∧ J 42 3 ≤ 60 := (hS 2 (by decide) (by decide)).2.2.2.1
  have s6 := (hS 2 (by decide) (by decide)).2.2.2.2.2 hh
  have s7 : J 84 2 = J 42 3 := s6.1.symm
  have s8 : ∀ i, 0 ≤ i → i < J 42 3 → M 43 i = M 85 (120 + i) := s6.2.1
  show zW _ _ _ _ [some (.ref 0), some (zi 2), some (zi i), some (zl v), none, none] _ _ _ _ _
  refine z_iload rfl rfl ?_
  refine z_callSi (As := [_]) (le := [some _]) rfl rfl (Nat.le_of_ble_eq_true rfl) (Nat.le_of_ble_eq_true rfl) rfl ?_
  refine z_iload rfl rfl ?_
  refine z_if_ltF rfl (by decide) (by decide) ?_
  refine z_iload rfl rfl ?_
  refine z_pushI (z := 6) rfl rfl ?_
  refine z_icmp_geF rfl (by decide) (by decide) (by decide) ?_
  refine z_pushI (z := 1) rfl rfl ?_
  refine z_goto rfl ?_
  refine z_bret rfl rfl (by decide) ?_
  show zW _ _ _ _ _ _ _ _ _ _
  refine z_if_neT rfl (by decide) (by decide) ?_
  refine z_aload rfl rfl ?_
  refine z_getR (r := 37) rfl rfl (hR _ rm_0_11) ?_
  refine z_iload rfl rfl ?_
  refine z_aald (r := 42) rfl rfl (by decide) (by decide) (hR _ rm_37_2) ?_
  refine z_iload rfl rfl ?_
  refine z_callVi (As := [_]) (le := [some _, some _]) rfl rfl rfl (Nat.le_of_ble_eq_true rfl) (Nat.le_of_ble_eq_true rfl) rfl ?_
  refine z_aload rfl rfl ?_
  refine z_getI (v := 2) rfl rfl (hh) ?_
  refine z_if_neT rfl (by decide) (by decide) ?_
  refine z_aload rfl rfl ?_
  refine z_getI (v := 2) rfl rfl (hh) ?_
  refine z_pushI (z := 2) rfl rfl ?_
  refine z_icmp_eqT rfl (by decide) (by decide) (by decide) ?_
  refine z_iload rfl rfl ?_
  refine z_if_lt rfl (by omega) (fun h1 => ?_) (fun h1 => ?_)
  · refine z_pushI (z := (-13)) rfl rfl ?_
    refine z_iret rfl rfl ?_
    show zW _ _ _ _ _ _ _ _ _ _
    refine z_istore rfl rfl ?_
    refine z_iload rfl rfl ?_
    refine z_if_geF rfl (by decide) (by decide) ?_
    refine z_iload rfl rfl ?_
    refine z_iret rfl rfl ?_
    refine ⟨_, rfl, ?_⟩
    show zW _ _ _ _ [some (.ref 50), some (zi 2), some (zi i), some (zl v), none, none, none] _ _ _ _ _
    refine z_aload rfl rfl ?_
    refine z_iload rfl rfl ?_
    refine z_iload rfl rfl ?_
    refine z_callVi (As := [_, _]) (le := [some _, some _, some _]) rfl rfl rfl (Nat.le_of_ble_eq_true rfl) (Nat.le_of_ble_eq_true rfl) rfl ?_
    refine z_iload rfl rfl ?_
    refine z_callSi (As := [_]) (le := [some _]) rfl rfl (Nat.le_of_ble_eq_true rfl) (Nat.le_of_ble_eq_true rfl) rfl ?_
    refine z_iload rfl rfl ?_
    refine z_pushI (z := 0) rfl rfl ?_
    refine z_pushI (z := 5) rfl rfl ?_
    refine z_callSi (As := [_, _, _]) (le := [some _, some _, some _]) rfl rfl (Nat.le_of_ble_eq_true rfl) (Nat.le_of_ble_eq_true rfl) rfl ?_
    refine z_iload rfl rfl ?_
    refine z_iload rfl rfl ?_
    refine z_icmp_ltF rfl (by decide) (by decide) (by decide) ?_
    refine z_iload rfl rfl ?_
    refine z_iload rfl rfl ?_
    refine z_icmp_gtF rfl (by decide) (by decide) (by decide) ?_
    refine z_pushI (z := 1) rfl rfl ?_
    refine z_goto rfl ?_
    refine z_bret rfl rfl (by decide) ?_
    show zW _ _ _ _ _ _ _ _ _ _
    refine z_bret rfl rfl (by decide) ?_
    show zW _ _ _ _ _ _ _ _ _ _
    refine z_if_neT rfl (by decide) (by decide) ?_
    refine z_aload rfl rfl ?_
    refine z_getR (r := 83) rfl rfl (hRr _ rm_50_58 (by decide)) ?_
    refine z_iload rfl rfl ?_
    refine z_iald (v := (-5)) rfl rfl (by decide) (by decide) ((e83.trans (by rw [hso]; rfl))) ?_
    refine z_pushI (z := (-1)) rfl rfl ?_
    refine z_icmp_neT rfl (by decide) (by decide) (by decide) ?_
    refine z_aload rfl rfl ?_
    refine z_getR (r := 83) rfl rfl (hRr _ rm_50_58 (by decide)) ?_
    refine z_iload rfl rfl ?_
    refine z_iald (v := (-5)) rfl rfl (by decide) (by decide) ((e83.trans (by rw [hso]; rfl))) ?_
    refine z_if_ltT rfl (by decide) (by decide) ?_
    refine z_iload rfl rfl ?_
    refine z_pushI (z := 0) rfl rfl ?_
    refine z_aload rfl rfl ?_
    refine z_getR (r := 84) rfl rfl (hRr _ rm_50_59 (by decide)) ?_
    refine z_iload rfl rfl ?_
    refine z_iald (v := J 42 3) rfl rfl (by decide) (by decide) (s7) ?_
    refine z_pushI (z := 1) rfl rfl ?_
    refine z_isub (e := (J 42 3) - 1) rfl rfl ?_
    refine z_callSi (As := [_, _, _]) (le := [some _, some _, some _]) rfl rfl (Nat.le_of_ble_eq_true rfl) (Nat.le_of_ble_eq_true rfl) rfl ?_
    refine z_iload rfl rfl ?_
    refine z_iload rfl rfl ?_
    refine z_icmp_ltT rfl (by omega) (by decide) (by omega) ?_
    refine z_pushI (z := 0) rfl rfl ?_
    refine z_bret rfl rfl (by decide) ?_
    show zW _ _ _ _ _ _ _ _ _ _
    refine z_if_eqT rfl (by decide) (by decide) ?_
    refine z_pushI (z := (-13)) rfl rfl ?_
    refine z_iret rfl rfl ?_
    show zW _ _ _ _ _ _ _ _ _ _
    refine z_istore rfl rfl ?_
    refine z_iload rfl rfl ?_
    refine z_if_geF rfl (by decide) (by decide) ?_
    refine z_iload rfl rfl ?_
    refine z_iret rfl rfl ?_
    refine ⟨?_, ?_⟩
    · first | rfl | exact congrArg (fun v => some (zi v)) (by omega) | (exfalso; omega)
    · exact hr
  · refine z_iload rfl rfl ?_
    refine z_aload rfl rfl ?_
    refine z_getI (v := J 42 3) rfl rfl (rfl) ?_
    refine z_icmp_ge rfl (by omega) (by omega) (fun h2 => ?_) (fun h2 => ?_)
    · refine z_pushI (z := (-13)) rfl rfl ?_
      refine z_iret rfl rfl ?_
      show zW _ _ _ _ _ _ _ _ _ _
      refine z_istore rfl rfl ?_
      refine z_iload rfl rfl ?_
      refine z_if_geF rfl (by decide) (by decide) ?_
      refine z_iload rfl rfl ?_
      refine z_iret rfl rfl ?_
      refine ⟨_, rfl, ?_⟩
      show zW _ _ _ _ [some (.ref 50), some (zi 2), some (zi i), some (zl v), none, none, none] _ _ _ _ _
      refine z_aload rfl rfl ?_
      refine z_iload rfl rfl ?_
      refine z_iload rfl rfl ?_
      refine z_callVi (As := [_, _]) (le := [some _, some _, some _]) rfl rfl rfl (Nat.le_of_ble_eq_true rfl) (Nat.le_of_ble_eq_true rfl) rfl ?_
      refine z_iload rfl rfl ?_
      refine z_callSi (As := [_]) (le := [some _]) rfl rfl (Nat.le_of_ble_eq_true rfl) (Nat.le_of_ble_eq_true rfl) rfl ?_
      refine z_iload rfl rfl ?_
      refine z_pushI (z := 0) rfl rfl ?_
      refine z_pushI (z := 5) rfl rfl ?_
      refine z_callSi (As := [_, _, _]) (le := [some _, some _, some _]) rfl rfl (Nat.le_of_ble_eq_true rfl) (Nat.le_of_ble_eq_true rfl) rfl ?_
      refine z_iload rfl rfl ?_
      refine z_iload rfl rfl ?_
      refine z_icmp_ltF rfl (by decide) (by decide) (by decide) ?_
      refine z_iload rfl rfl ?_
      refine z_iload rfl rfl ?_
      refine z_icmp_gtF rfl (by decide) (by decide) (by decide) ?_
      refine z_pushI (z := 1) rfl rfl ?_
      refine z_goto rfl ?_
      refine z_bret rfl rfl (by decide) ?_
      show zW _ _ _ _ _ _ _ _ _ _
      refine z_bret rfl rfl (by decide) ?_
      show zW _ _ _ _ _ _ _ _ _ _
      refine z_if_neT rfl (by decide) (by decide) ?_
      refine z_aload rfl rfl ?_
      refine z_getR (r := 83) rfl rfl (hRr _ rm_50_58 (by decide)) ?_
      refine z_iload rfl rfl ?_
      refine z_iald (v := (-5)) rfl rfl (by decide) (by decide) ((e83.trans (by rw [hso]; rfl))) ?_
      refine z_pushI (z := (-1)) rfl rfl ?_
      refine z_icmp_neT rfl (by decide) (by decide) (by decide) ?_
      refine z_aload rfl rfl ?_
      refine z_getR (r := 83) rfl rfl (hRr _ rm_50_58 (by decide)) ?_
      refine z_iload rfl rfl ?_
      refine z_iald (v := (-5)) rfl rfl (by decide) (by decide) ((e83.trans (by rw [hso]; rfl))) ?_
      refine z_if_ltT rfl (by decide) (by decide) ?_
      refine z_iload rfl rfl ?_
      refine z_pushI (z := 0) rfl rfl ?_
      refine z_aload rfl rfl ?_
      refine z_getR (r := 84) rfl rfl (hRr _ rm_50_59 (by decide)) ?_
      refine z_iload rfl rfl ?_
      refine z_iald (v := J 42 3) rfl rfl (by decide) (by decide) (s7) ?_
      refine z_pushI (z := 1) rfl rfl ?_
      refine z_isub (e := (J 42 3) - 1) rfl rfl ?_
      refine z_callSi (As := [_, _, _]) (le := [some _, some _, some _]) rfl rfl (Nat.le_of_ble_eq_true rfl) (Nat.le_of_ble_eq_true rfl) rfl ?_
      refine z_iload rfl rfl ?_
      refine z_iload rfl rfl ?_
      refine z_icmp_ltF rfl (by omega) (by decide) (by omega) ?_
      refine z_iload rfl rfl ?_
      refine z_iload rfl rfl ?_
      refine z_icmp_gtT rfl (by omega) (by omega) (by omega) ?_
      refine z_pushI (z := 0) rfl rfl ?_
      refine z_bret rfl rfl (by decide) ?_
      show zW _ _ _ _ _ _ _ _ _ _
      refine z_if_eqT rfl (by decide) (by decide) ?_
      refine z_pushI (z := (-13)) rfl rfl ?_
      refine z_iret rfl rfl ?_
      show zW _ _ _ _ _ _ _ _ _ _
      refine z_istore rfl rfl ?_
      refine z_iload rfl rfl ?_
      refine z_if_geF rfl (by decide) (by decide) ?_
      refine z_iload rfl rfl ?_
      refine z_iret rfl rfl ?_
      refine ⟨?_, ?_⟩
      · first | rfl | exact congrArg (fun v => some (zi v)) (by omega) | (exfalso; omega)
      · exact hr
    · refine z_pushI (z := 0) rfl rfl ?_
      refine z_goto rfl ?_
      refine z_iret rfl rfl ?_
      show zW _ _ _ _ _ _ _ _ _ _
      refine z_istore rfl rfl ?_
      refine z_iload rfl rfl ?_
      refine z_if_geT rfl (by decide) (by decide) ?_
      refine z_aload rfl rfl ?_
      refine z_getR (r := 37) rfl rfl (hR _ rm_0_11) ?_
      refine z_iload rfl rfl ?_
      refine z_aald (r := 42) rfl rfl (by decide) (by decide) (hR _ rm_37_2) ?_
      refine z_iload rfl rfl ?_
      refine z_lload rfl rfl ?_
      refine z_callVi (As := [_, _]) (le := [some _, some _, some _, none]) rfl rfl rfl (Nat.le_of_ble_eq_true rfl) (Nat.le_of_ble_eq_true rfl) rfl ?_
      refine z_iload rfl rfl ?_
      refine z_if_ltF rfl (by omega) (by omega) ?_
      refine z_iload rfl rfl ?_
      refine z_aload rfl rfl ?_
      refine z_getI (v := J 42 3) rfl rfl (rfl) ?_
      refine z_icmp_geF rfl (by omega) (by omega) (by omega) ?_
      refine z_aload rfl rfl ?_
      refine z_getR (r := 43) rfl rfl (hR _ rm_42_4) ?_
      refine z_iload rfl rfl ?_
      refine z_aload rfl rfl ?_
      refine z_lload rfl rfl ?_
      refine z_callVi (As := [_]) (le := [some _, some _, none]) rfl rfl rfl (Nat.le_of_ble_eq_true rfl) (Nat.le_of_ble_eq_true rfl) rfl ?_
      refine z_aload rfl rfl ?_
      refine z_getI (v := 3) rfl rfl (hso) ?_
      refine z_swI (tg := 66) rfl (by decide) (T := [((0 : Int), 40), ((1 : Int), 45), ((2 : Int), 50), ((3 : Int), 66), ((4 : Int), 54)]) rfl (by decide) ?_
      refine z_lload rfl rfl ?_
      refine z_lret rfl rfl ?_
      show zW _ _ _ _ _ _ _ _ _ _
      refine z_last (e := v) rfl rfl (by decide) (by omega) rfl ?_
      refine z_vret rfl rfl ?_
      show zW _ _ _ _ _ _ _ _ _ _
      refine z_pushI (z := 1) rfl rfl ?_
      refine z_iret rfl rfl ?_
      refine ⟨_, rfl, ?_⟩
      show zW _ _ _ _ [some (.ref 50), some (zi 2), some (zi i), some (zl v), none, none, none] _ _ _ _ _
      refine z_aload rfl rfl ?_
      refine z_iload rfl rfl ?_
      refine z_iload rfl rfl ?_
      refine z_callVi (As := [_, _]) (le := [some _, some _, some _]) rfl rfl rfl (Nat.le_of_ble_eq_true rfl) (Nat.le_of_ble_eq_true rfl) rfl ?_
      refine z_iload rfl rfl ?_
      refine z_callSi (As := [_]) (le := [some _]) rfl rfl (Nat.le_of_ble_eq_true rfl) (Nat.le_of_ble_eq_true rfl) rfl ?_
      refine z_iload rfl rfl ?_
      refine z_pushI (z := 0) rfl rfl ?_
      refine z_pushI (z := 5) rfl rfl ?_
      refine z_callSi (As := [_, _, _]) (le := [some _, some _, some _]) rfl rfl (Nat.le_of_ble_eq_true rfl) (Nat.le_of_ble_eq_true rfl) rfl ?_
      refine z_iload rfl rfl ?_
      refine z_iload rfl rfl ?_
      refine z_icmp_ltF rfl (by decide) (by decide) (by decide) ?_
      refine z_iload rfl rfl ?_
      refine z_iload rfl rfl ?_
      refine z_icmp_gtF rfl (by decide) (by decide) (by decide) ?_
      refine z_pushI (z := 1) rfl rfl ?_
      refine z_goto rfl ?_
      refine z_bret rfl rfl (by decide) ?_
      show zW _ _ _ _ _ _ _ _ _ _
      refine z_bret rfl rfl (by decide) ?_
      show zW _ _ _ _ _ _ _ _ _ _
      refine z_if_neT rfl (by decide) (by decide) ?_
      refine z_aload rfl rfl ?_
      refine z_getR (r := 83) rfl rfl (hRr _ rm_50_58 (by decide)) ?_
      refine z_iload rfl rfl ?_
      refine z_iald (v := (-5)) rfl rfl (by decide) (by decide) ((e83.trans (by rw [hso]; rfl))) ?_
      refine z_pushI (z := (-1)) rfl rfl ?_
      refine z_icmp_neT rfl (by decide) (by decide) (by decide) ?_
      refine z_aload rfl rfl ?_
      refine z_getR (r := 83) rfl rfl (hRr _ rm_50_58 (by decide)) ?_
      refine z_iload rfl rfl ?_
      refine z_iald (v := (-5)) rfl rfl (by decide) (by decide) ((e83.trans (by rw [hso]; rfl))) ?_
      refine z_if_ltT rfl (by decide) (by decide) ?_
      refine z_iload rfl rfl ?_
      refine z_pushI (z := 0) rfl rfl ?_
      refine z_aload rfl rfl ?_
      refine z_getR (r := 84) rfl rfl (hRr _ rm_50_59 (by decide)) ?_
      refine z_iload rfl rfl ?_
      refine z_iald (v := J 42 3) rfl rfl (by decide) (by decide) (s7) ?_
      refine z_pushI (z := 1) rfl rfl ?_
      refine z_isub (e := (J 42 3) - 1) rfl rfl ?_
      refine z_callSi (As := [_, _, _]) (le := [some _, some _, some _]) rfl rfl (Nat.le_of_ble_eq_true rfl) (Nat.le_of_ble_eq_true rfl) rfl ?_
      refine z_iload rfl rfl ?_
      refine z_iload rfl rfl ?_
      refine z_icmp_ltF rfl (by omega) (by decide) (by omega) ?_
      refine z_iload rfl rfl ?_
      refine z_iload rfl rfl ?_
      refine z_icmp_gtF rfl (by omega) (by omega) (by omega) ?_
      refine z_pushI (z := 1) rfl rfl ?_
      refine z_goto rfl ?_
      refine z_bret rfl rfl (by decide) ?_
      show zW _ _ _ _ _ _ _ _ _ _
      refine z_if_eqF rfl (by decide) (by decide) ?_
      refine z_pushI (z := 0) rfl rfl ?_
      refine z_goto rfl ?_
      refine z_iret rfl rfl ?_
      show zW _ _ _ _ _ _ _ _ _ _
      refine z_istore rfl rfl ?_
      refine z_iload rfl rfl ?_
      refine z_if_geT rfl (by decide) (by decide) ?_
      refine z_pushI (z := (-2)) rfl rfl ?_
      refine z_aload rfl rfl ?_
      refine z_getR (r := 83) rfl rfl (hRr _ rm_50_58 (by decide)) ?_
      refine z_iload rfl rfl ?_
      refine z_iald (v := (-5)) rfl rfl (by decide) (by decide) ((e83.trans (by rw [hso]; rfl))) ?_
      refine z_isub (e := 3) rfl rfl ?_
      refine z_istore rfl rfl ?_
      refine z_aload rfl rfl ?_
      refine z_getR (r := 85) rfl rfl (hRr _ rm_50_60 (by decide)) ?_
      refine z_pushI (z := 60) rfl rfl ?_
      refine z_iload rfl rfl ?_
      refine z_imul (e := 120) rfl rfl ?_
      refine z_iload rfl rfl ?_
      refine z_iadd (e := 120 + i) rfl rfl ?_
      refine z_iload rfl rfl ?_
      refine z_if_neT rfl (by decide) (by decide) ?_
      refine z_iload rfl rfl ?_
      refine z_pushI (z := 1) rfl rfl ?_
      refine z_icmp_neT rfl (by decide) (by decide) (by decide) ?_
      refine z_iload rfl rfl ?_
      refine z_pushI (z := 2) rfl rfl ?_
      refine z_icmp_neT rfl (by decide) (by decide) (by decide) ?_
      refine z_iload rfl rfl ?_
      refine z_pushI (z := 3) rfl rfl ?_
      refine z_icmp_neF rfl (by decide) (by decide) (by decide) ?_
      refine z_lload rfl rfl ?_
      refine z_goto rfl ?_
      refine z_last (e := v) rfl rfl (by decide) (by omega) rfl ?_
      refine z_pushI (z := 1) rfl rfl ?_
      refine z_iret rfl rfl ?_
      refine ⟨?_, ?_⟩
      · first | rfl | exact congrArg (fun v => some (zi v)) (by omega) | (exfalso; omega)
      · have hk := (zK_r (k := (kL [] [])) (A := J))
        have hkm := (zK_x (a := 85) (x := 120 + i) (v := v) (zK_x (a := 43) (x := i) (v := v) (zK_r (k := (kL [43, 85] [])) (A := M)) rfl) rfl)
        exact ⟨hR, hG, RelY_k hk (by repeat' constructor) (fun p => by repeat' constructor) hY, RelD_k hk (by repeat' constructor) (fun p => by repeat' constructor) hD, RelP_k hk (by repeat' constructor) (fun p => by repeat' constructor) hP, RelC_k hk (by repeat' constructor) (fun p => by repeat' constructor) hC, RelA_k hk (by repeat' constructor) (fun p => by repeat' constructor) hAc, (RelS_one (J := J) (M := M) (c := 2) (fun t t1 t2 te => by have q : t = 0 ∨ t = 1 ∨ t = 2 ∨ t = 3 ∨ t = 4 ∨ t = 5 := (by omega); rcases q with rfl | rfl | rfl | rfl | rfl | rfl <;> first | exact absurd rfl te | exact ⟨fun j => rfl, rfl, rfl⟩) (fun t t1 t2 te => by have q : t = 0 ∨ t = 1 ∨ t = 2 ∨ t = 3 ∨ t = 4 ∨ t = 5 := (by omega); rcases q with rfl | rfl | rfl | rfl | rfl | rfl <;> first | exact absurd rfl te | exact ⟨fun j => rfl, fun j j1 j2 => (zU_x (by omega)).trans (zU_n (by decide))⟩) rfl (show RelS1 _ _ _ from ⟨(hS 2 (by decide) (by decide)).1, (hS 2 (by decide) (by decide)).2.1, s3, s4, (hS 2 (by decide) (by decide)).2.2.2.2.1, fun _ => ⟨s7.symm, fun k k1 k2 => by show (if k = i then v else M 43 k) = (if 120 + k = 120 + i then v else M 85 (120 + k)); by_cases e : k = i; rw [if_pos e, if_pos (by omega)]; rw [if_neg e, if_neg (by omega)]; exact s8 k k1 k2, (fun hq => absurd (Eq.trans (Eq.symm hq) hso) (by decide))⟩⟩) hS), RelT_k hk (by repeat' constructor) (fun p => by repeat' constructor) hTp, RelX_k hk (by repeat' constructor) (fun p => by repeat' constructor) hX, RelW_k hk ⟨rfl, rfl⟩ trivial hW⟩
theorem st_put_224 {X : Nat × (Nat → Int32)} {d : Nat} {J M : zA} {R : zR} {i v : Int} (hr : Rel X J M R) (hi : -2147483648 ≤ i ∧ i < 2147483648) (hv : -9223372036854775808 ≤ v ∧ v < 9223372036854775808) (hh : J 42 0 = 2) (hso : J 42 2 = 4) : zW X (d + 20) 138 0 (gEn 138 [(.ref 0), (zi 2), (zi i), (zl v)]) [] J M R (stP X (d + 20) 252 [(zi 2), (zi i), (zl v)]) := by
  have hr0 := hr
  obtain ⟨hR, hG, hY, hD, hP, hC, hAc, hS, hTp, hX, hW⟩ := hr0
  have hRr : zRoR R := zRoR_of hR
  have e83 : J 83 2 = -2 - J 42 2 := (hS 2 (by decide) (by decide)).1.symm.trans (cH_2 hh)
  have s3 : 0 ≤ J 42 2 ∧ J 42 2 ≤ 4 := (hS 2 (by decide) (by decide)).2.2.1
  have s4 : 0 ≤ J 42 3 ∧ J 42 3 ≤ 60 := (hS 2 (by decide) (by decide)).2.2.2.1
  have s6 := (hS 2 (by decide) (by decide)).2.2.2.2.2 hh
  have s7 : J 84 2 = J 42 3 := s6.1.symm
  have s8 : ∀ i, 0 ≤ i → i < J 42 3 → M 43 i = M 85 (120 + i) := s6.2.1
  show zW _ _ _ _ [some (.ref 0), some (zi 2), some (zi i), some (zl v), none, none] _ _ _ _ _
  refine z_iload rfl rfl ?_
  refine z_callSi (As := [_]) (le := [some _]) rfl rfl (Nat.le_of_ble_eq_true rfl) (Nat.le_of_ble_eq_true rfl) rfl ?_
  refine z_iload rfl rfl ?_
  refine z_if_ltF rfl (by decide) (by decide) ?_
  refine z_iload rfl rfl ?_
  refine z_pushI (z := 6) rfl rfl ?_
  refine z_icmp_geF rfl (by decide) (by decide) (by decide) ?_
  refine z_pushI (z := 1) rfl rfl ?_
  refine z_goto rfl ?_
  refine z_bret rfl rfl (by decide) ?_
  show zW _ _ _ _ _ _ _ _ _ _
  refine z_if_neT rfl (by decide) (by decide) ?_
  refine z_aload rfl rfl ?_
  refine z_getR (r := 37) rfl rfl (hR _ rm_0_11) ?_
  refine z_iload rfl rfl ?_
  refine z_aald (r := 42) rfl rfl (by decide) (by decide) (hR _ rm_37_2) ?_
  refine z_iload rfl rfl ?_
  refine z_callVi (As := [_]) (le := [some _, some _]) rfl rfl rfl (Nat.le_of_ble_eq_true rfl) (Nat.le_of_ble_eq_true rfl) rfl ?_
  refine z_aload rfl rfl ?_
  refine z_getI (v := 2) rfl rfl (hh) ?_
  refine z_if_neT rfl (by decide) (by decide) ?_
  refine z_aload rfl rfl ?_
  refine z_getI (v := 2) rfl rfl (hh) ?_
  refine z_pushI (z := 2) rfl rfl ?_
  refine z_icmp_eqT rfl (by decide) (by decide) (by decide) ?_
  refine z_iload rfl rfl ?_
  refine z_if_lt rfl (by omega) (fun h1 => ?_) (fun h1 => ?_)
  · refine z_pushI (z := (-13)) rfl rfl ?_
    refine z_iret rfl rfl ?_
    show zW _ _ _ _ _ _ _ _ _ _
    refine z_istore rfl rfl ?_
    refine z_iload rfl rfl ?_
    refine z_if_geF rfl (by decide) (by decide) ?_
    refine z_iload rfl rfl ?_
    refine z_iret rfl rfl ?_
    refine ⟨_, rfl, ?_⟩
    show zW _ _ _ _ [some (.ref 50), some (zi 2), some (zi i), some (zl v), none, none, none] _ _ _ _ _
    refine z_aload rfl rfl ?_
    refine z_iload rfl rfl ?_
    refine z_iload rfl rfl ?_
    refine z_callVi (As := [_, _]) (le := [some _, some _, some _]) rfl rfl rfl (Nat.le_of_ble_eq_true rfl) (Nat.le_of_ble_eq_true rfl) rfl ?_
    refine z_iload rfl rfl ?_
    refine z_callSi (As := [_]) (le := [some _]) rfl rfl (Nat.le_of_ble_eq_true rfl) (Nat.le_of_ble_eq_true rfl) rfl ?_
    refine z_iload rfl rfl ?_
    refine z_pushI (z := 0) rfl rfl ?_
    refine z_pushI (z := 5) rfl rfl ?_
    refine z_callSi (As := [_, _, _]) (le := [some _, some _, some _]) rfl rfl (Nat.le_of_ble_eq_true rfl) (Nat.le_of_ble_eq_true rfl) rfl ?_
    refine z_iload rfl rfl ?_
    refine z_iload rfl rfl ?_
    refine z_icmp_ltF rfl (by decide) (by decide) (by decide) ?_
    refine z_iload rfl rfl ?_
    refine z_iload rfl rfl ?_
    refine z_icmp_gtF rfl (by decide) (by decide) (by decide) ?_
    refine z_pushI (z := 1) rfl rfl ?_
    refine z_goto rfl ?_
    refine z_bret rfl rfl (by decide) ?_
    show zW _ _ _ _ _ _ _ _ _ _
    refine z_bret rfl rfl (by decide) ?_
    show zW _ _ _ _ _ _ _ _ _ _
    refine z_if_neT rfl (by decide) (by decide) ?_
    refine z_aload rfl rfl ?_
    refine z_getR (r := 83) rfl rfl (hRr _ rm_50_58 (by decide)) ?_
    refine z_iload rfl rfl ?_
    refine z_iald (v := (-6)) rfl rfl (by decide) (by decide) ((e83.trans (by rw [hso]; rfl))) ?_
    refine z_pushI (z := (-1)) rfl rfl ?_
    refine z_icmp_neT rfl (by decide) (by decide) (by decide) ?_
    refine z_aload rfl rfl ?_
    refine z_getR (r := 83) rfl rfl (hRr _ rm_50_58 (by decide)) ?_
    refine z_iload rfl rfl ?_
    refine z_iald (v := (-6)) rfl rfl (by decide) (by decide) ((e83.trans (by rw [hso]; rfl))) ?_
    refine z_if_ltT rfl (by decide) (by decide) ?_
    refine z_iload rfl rfl ?_
    refine z_pushI (z := 0) rfl rfl ?_
    refine z_aload rfl rfl ?_
    refine z_getR (r := 84) rfl rfl (hRr _ rm_50_59 (by decide)) ?_
    refine z_iload rfl rfl ?_
    refine z_iald (v := J 42 3) rfl rfl (by decide) (by decide) (s7) ?_
    refine z_pushI (z := 1) rfl rfl ?_
    refine z_isub (e := (J 42 3) - 1) rfl rfl ?_
    refine z_callSi (As := [_, _, _]) (le := [some _, some _, some _]) rfl rfl (Nat.le_of_ble_eq_true rfl) (Nat.le_of_ble_eq_true rfl) rfl ?_
    refine z_iload rfl rfl ?_
    refine z_iload rfl rfl ?_
    refine z_icmp_ltT rfl (by omega) (by decide) (by omega) ?_
    refine z_pushI (z := 0) rfl rfl ?_
    refine z_bret rfl rfl (by decide) ?_
    show zW _ _ _ _ _ _ _ _ _ _
    refine z_if_eqT rfl (by decide) (by decide) ?_
    refine z_pushI (z := (-13)) rfl rfl ?_
    refine z_iret rfl rfl ?_
    show zW _ _ _ _ _ _ _ _ _ _
    refine z_istore rfl rfl ?_
    refine z_iload rfl rfl ?_
    refine z_if_geF rfl (by decide) (by decide) ?_
    refine z_iload rfl rfl ?_
    refine z_iret rfl rfl ?_
    refine ⟨?_, ?_⟩
    · first | rfl | exact congrArg (fun v => some (zi v)) (by omega) | (exfalso; omega)
    · exact hr
  · refine z_iload rfl rfl ?_
    refine z_aload rfl rfl ?_
    refine z_getI (v := J 42 3) rfl rfl (rfl) ?_
    refine z_icmp_ge rfl (by omega) (by omega) (fun h2 => ?_) (fun h2 => ?_)
    · refine z_pushI (z := (-13)) rfl rfl ?_
      refine z_iret rfl rfl ?_
      show zW _ _ _ _ _ _ _ _ _ _
      refine z_istore rfl rfl ?_
      refine z_iload rfl rfl ?_
      refine z_if_geF rfl (by decide) (by decide) ?_
      refine z_iload rfl rfl ?_
      refine z_iret rfl rfl ?_
      refine ⟨_, rfl, ?_⟩
      show zW _ _ _ _ [some (.ref 50), some (zi 2), some (zi i), some (zl v), none, none, none] _ _ _ _ _
      refine z_aload rfl rfl ?_
      refine z_iload rfl rfl ?_
      refine z_iload rfl rfl ?_
      refine z_callVi (As := [_, _]) (le := [some _, some _, some _]) rfl rfl rfl (Nat.le_of_ble_eq_true rfl) (Nat.le_of_ble_eq_true rfl) rfl ?_
      refine z_iload rfl rfl ?_
      refine z_callSi (As := [_]) (le := [some _]) rfl rfl (Nat.le_of_ble_eq_true rfl) (Nat.le_of_ble_eq_true rfl) rfl ?_
      refine z_iload rfl rfl ?_
      refine z_pushI (z := 0) rfl rfl ?_
      refine z_pushI (z := 5) rfl rfl ?_
      refine z_callSi (As := [_, _, _]) (le := [some _, some _, some _]) rfl rfl (Nat.le_of_ble_eq_true rfl) (Nat.le_of_ble_eq_true rfl) rfl ?_
      refine z_iload rfl rfl ?_
      refine z_iload rfl rfl ?_
      refine z_icmp_ltF rfl (by decide) (by decide) (by decide) ?_
      refine z_iload rfl rfl ?_
      refine z_iload rfl rfl ?_
      refine z_icmp_gtF rfl (by decide) (by decide) (by decide) ?_
      refine z_pushI (z := 1) rfl rfl ?_
      refine z_goto rfl ?_
      refine z_bret rfl rfl (by decide) ?_
      show zW _ _ _ _ _ _ _ _ _ _
      refine z_bret rfl rfl (by decide) ?_
      show zW _ _ _ _ _ _ _ _ _ _
      refine z_if_neT rfl (by decide) (by decide) ?_
      refine z_aload rfl rfl ?_
      refine z_getR (r := 83) rfl rfl (hRr _ rm_50_58 (by decide)) ?_
      refine z_iload rfl rfl ?_
      refine z_iald (v := (-6)) rfl rfl (by decide) (by decide) ((e83.trans (by rw [hso]; rfl))) ?_
      refine z_pushI (z := (-1)) rfl rfl ?_
      refine z_icmp_neT rfl (by decide) (by decide) (by decide) ?_
      refine z_aload rfl rfl ?_
      refine z_getR (r := 83) rfl rfl (hRr _ rm_50_58 (by decide)) ?_
      refine z_iload rfl rfl ?_
      refine z_iald (v := (-6)) rfl rfl (by decide) (by decide) ((e83.trans (by rw [hso]; rfl))) ?_
      refine z_if_ltT rfl (by decide) (by decide) ?_
      refine z_iload rfl rfl ?_
      refine z_pushI (z := 0) rfl rfl ?_
      refine z_aload rfl rfl ?_
      refine z_getR (r := 84) rfl rfl (hRr _ rm_50_59 (by decide)) ?_
      refine z_iload rfl rfl ?_
      refine z_iald (v := J 42 3) rfl rfl (by decide) (by decide) (s7) ?_
      refine z_pushI (z := 1) rfl rfl ?_
      refine z_isub (e := (J 42 3) - 1) rfl rfl ?_
      refine z_callSi (As := [_, _, _]) (le := [some _, some _, some _]) rfl rfl (Nat.le_of_ble_eq_true rfl) (Nat.le_of_ble_eq_true rfl) rfl ?_
      refine z_iload rfl rfl ?_
      refine z_iload rfl rfl ?_
      refine z_icmp_ltF rfl (by omega) (by decide) (by omega) ?_
      refine z_iload rfl rfl ?_
      refine z_iload rfl rfl ?_
      refine z_icmp_gtT rfl (by omega) (by omega) (by omega) ?_
      refine z_pushI (z := 0) rfl rfl ?_
      refine z_bret rfl rfl (by decide) ?_
      show zW _ _ _ _ _ _ _ _ _ _
      refine z_if_eqT rfl (by decide) (by decide) ?_
      refine z_pushI (z := (-13)) rfl rfl ?_
      refine z_iret rfl rfl ?_
      show zW _ _ _ _ _ _ _ _ _ _
      refine z_istore rfl rfl ?_
      refine z_iload rfl rfl ?_
      refine z_if_geF rfl (by decide) (by decide) ?_
      refine z_iload rfl rfl ?_
      refine z_iret rfl rfl ?_
      refine ⟨?_, ?_⟩
      · first | rfl | exact congrArg (fun v => some (zi v)) (by omega) | (exfalso; omega)
      · exact hr
    · refine z_pushI (z := 0) rfl rfl ?_
      refine z_goto rfl ?_
      refine z_iret rfl rfl ?_
      show zW _ _ _ _ _ _ _ _ _ _
      refine z_istore rfl rfl ?_
      refine z_iload rfl rfl ?_
      refine z_if_geT rfl (by decide) (by decide) ?_
      refine z_aload rfl rfl ?_
      refine z_getR (r := 37) rfl rfl (hR _ rm_0_11) ?_
      refine z_iload rfl rfl ?_
      refine z_aald (r := 42) rfl rfl (by decide) (by decide) (hR _ rm_37_2) ?_
      refine z_iload rfl rfl ?_
      refine z_lload rfl rfl ?_
      refine z_callVi (As := [_, _]) (le := [some _, some _, some _, none]) rfl rfl rfl (Nat.le_of_ble_eq_true rfl) (Nat.le_of_ble_eq_true rfl) rfl ?_
      refine z_iload rfl rfl ?_
      refine z_if_ltF rfl (by omega) (by omega) ?_
      refine z_iload rfl rfl ?_
      refine z_aload rfl rfl ?_
      refine z_getI (v := J 42 3) rfl rfl (rfl) ?_
      refine z_icmp_geF rfl (by omega) (by omega) (by omega) ?_
      refine z_aload rfl rfl ?_
      refine z_getR (r := 43) rfl rfl (hR _ rm_42_4) ?_
      refine z_iload rfl rfl ?_
      refine z_aload rfl rfl ?_
      refine z_lload rfl rfl ?_
      refine z_callVi (As := [_]) (le := [some _, some _, none]) rfl rfl rfl (Nat.le_of_ble_eq_true rfl) (Nat.le_of_ble_eq_true rfl) rfl ?_
      refine z_aload rfl rfl ?_
      refine z_getI (v := 4) rfl rfl (hso) ?_
      refine z_swI (tg := 54) rfl (by decide) (T := [((0 : Int), 40), ((1 : Int), 45), ((2 : Int), 50), ((3 : Int), 66), ((4 : Int), 54)]) rfl (by decide) ?_
      refine z_lload rfl rfl ?_
      refine z_pushL (z := 0) rfl rfl ?_
      refine z_lcmp_eq rfl rfl (by omega) (by omega) (fun h3 => ?_) (fun h3 => ?_)
      · refine z_pushL (z := 0) rfl rfl ?_
        refine z_lret rfl rfl ?_
        show zW _ _ _ _ _ _ _ _ _ _
        refine z_last (e := 0) rfl rfl (by decide) (by omega) rfl ?_
        refine z_vret rfl rfl ?_
        show zW _ _ _ _ _ _ _ _ _ _
        refine z_pushI (z := 1) rfl rfl ?_
        refine z_iret rfl rfl ?_
        refine ⟨_, rfl, ?_⟩
        show zW _ _ _ _ [some (.ref 50), some (zi 2), some (zi i), some (zl v), none, none, none] _ _ _ _ _
        refine z_aload rfl rfl ?_
        refine z_iload rfl rfl ?_
        refine z_iload rfl rfl ?_
        refine z_callVi (As := [_, _]) (le := [some _, some _, some _]) rfl rfl rfl (Nat.le_of_ble_eq_true rfl) (Nat.le_of_ble_eq_true rfl) rfl ?_
        refine z_iload rfl rfl ?_
        refine z_callSi (As := [_]) (le := [some _]) rfl rfl (Nat.le_of_ble_eq_true rfl) (Nat.le_of_ble_eq_true rfl) rfl ?_
        refine z_iload rfl rfl ?_
        refine z_pushI (z := 0) rfl rfl ?_
        refine z_pushI (z := 5) rfl rfl ?_
        refine z_callSi (As := [_, _, _]) (le := [some _, some _, some _]) rfl rfl (Nat.le_of_ble_eq_true rfl) (Nat.le_of_ble_eq_true rfl) rfl ?_
        refine z_iload rfl rfl ?_
        refine z_iload rfl rfl ?_
        refine z_icmp_ltF rfl (by decide) (by decide) (by decide) ?_
        refine z_iload rfl rfl ?_
        refine z_iload rfl rfl ?_
        refine z_icmp_gtF rfl (by decide) (by decide) (by decide) ?_
        refine z_pushI (z := 1) rfl rfl ?_
        refine z_goto rfl ?_
        refine z_bret rfl rfl (by decide) ?_
        show zW _ _ _ _ _ _ _ _ _ _
        refine z_bret rfl rfl (by decide) ?_
        show zW _ _ _ _ _ _ _ _ _ _
        refine z_if_neT rfl (by decide) (by decide) ?_
        refine z_aload rfl rfl ?_
        refine z_getR (r := 83) rfl rfl (hRr _ rm_50_58 (by decide)) ?_
        refine z_iload rfl rfl ?_
        refine z_iald (v := (-6)) rfl rfl (by decide) (by decide) ((e83.trans (by rw [hso]; rfl))) ?_
        refine z_pushI (z := (-1)) rfl rfl ?_
        refine z_icmp_neT rfl (by decide) (by decide) (by decide) ?_
        refine z_aload rfl rfl ?_
        refine z_getR (r := 83) rfl rfl (hRr _ rm_50_58 (by decide)) ?_
        refine z_iload rfl rfl ?_
        refine z_iald (v := (-6)) rfl rfl (by decide) (by decide) ((e83.trans (by rw [hso]; rfl))) ?_
        refine z_if_ltT rfl (by decide) (by decide) ?_
        refine z_iload rfl rfl ?_
        refine z_pushI (z := 0) rfl rfl ?_
        refine z_aload rfl rfl ?_
        refine z_getR (r := 84) rfl rfl (hRr _ rm_50_59 (by decide)) ?_
        refine z_iload rfl rfl ?_
        refine z_iald (v := J 42 3) rfl rfl (by decide) (by decide) (s7) ?_
        refine z_pushI (z := 1) rfl rfl ?_
        refine z_isub (e := (J 42 3) - 1) rfl rfl ?_
        refine z_callSi (As := [_, _, _]) (le := [some _, some _, some _]) rfl rfl (Nat.le_of_ble_eq_true rfl) (Nat.le_of_ble_eq_true rfl) rfl ?_
        refine z_iload rfl rfl ?_
        refine z_iload rfl rfl ?_
        refine z_icmp_ltF rfl (by omega) (by decide) (by omega) ?_
        refine z_iload rfl rfl ?_
        refine z_iload rfl rfl ?_
        refine z_icmp_gtF rfl (by omega) (by omega) (by omega) ?_
        refine z_pushI (z := 1) rfl rfl ?_
        refine z_goto rfl ?_
        refine z_bret rfl rfl (by decide) ?_
        show zW _ _ _ _ _ _ _ _ _ _
        refine z_if_eqF rfl (by decide) (by decide) ?_
        refine z_pushI (z := 0) rfl rfl ?_
        refine z_goto rfl ?_
        refine z_iret rfl rfl ?_
        show zW _ _ _ _ _ _ _ _ _ _
        refine z_istore rfl rfl ?_
        refine z_iload rfl rfl ?_
        refine z_if_geT rfl (by decide) (by decide) ?_
        refine z_pushI (z := (-2)) rfl rfl ?_
        refine z_aload rfl rfl ?_
        refine z_getR (r := 83) rfl rfl (hRr _ rm_50_58 (by decide)) ?_
        refine z_iload rfl rfl ?_
        refine z_iald (v := (-6)) rfl rfl (by decide) (by decide) ((e83.trans (by rw [hso]; rfl))) ?_
        refine z_isub (e := 4) rfl rfl ?_
        refine z_istore rfl rfl ?_
        refine z_aload rfl rfl ?_
        refine z_getR (r := 85) rfl rfl (hRr _ rm_50_60 (by decide)) ?_
        refine z_pushI (z := 60) rfl rfl ?_
        refine z_iload rfl rfl ?_
        refine z_imul (e := 120) rfl rfl ?_
        refine z_iload rfl rfl ?_
        refine z_iadd (e := 120 + i) rfl rfl ?_
        refine z_iload rfl rfl ?_
        refine z_if_neT rfl (by decide) (by decide) ?_
        refine z_iload rfl rfl ?_
        refine z_pushI (z := 1) rfl rfl ?_
        refine z_icmp_neT rfl (by decide) (by decide) (by decide) ?_
        refine z_iload rfl rfl ?_
        refine z_pushI (z := 2) rfl rfl ?_
        refine z_icmp_neT rfl (by decide) (by decide) (by decide) ?_
        refine z_iload rfl rfl ?_
        refine z_pushI (z := 3) rfl rfl ?_
        refine z_icmp_neT rfl (by decide) (by decide) (by decide) ?_
        refine z_lload rfl rfl ?_
        refine z_pushL (z := 0) rfl rfl ?_
        refine z_lcmp_eq rfl rfl (by omega) (by omega) (fun h4 => ?_) (fun h4 => ?_)
        · refine z_pushL (z := 0) rfl rfl ?_
          refine z_last (e := 0) rfl rfl (by decide) (by omega) rfl ?_
          refine z_pushI (z := 1) rfl rfl ?_
          refine z_iret rfl rfl ?_
          refine ⟨?_, ?_⟩
          · first | rfl | exact congrArg (fun v => some (zi v)) (by omega) | (exfalso; omega)
          · have hk := (zK_r (k := (kL [] [])) (A := J))
            have hkm := (zK_x (a := 85) (x := 120 + i) (v := 0) (zK_x (a := 43) (x := i) (v := 0) (zK_r (k := (kL [43, 85] [])) (A := M)) rfl) rfl)
            exact ⟨hR, hG, RelY_k hk (by repeat' constructor) (fun p => by repeat' constructor) hY, RelD_k hk (by repeat' constructor) (fun p => by repeat' constructor) hD, RelP_k hk (by repeat' constructor) (fun p => by repeat' constructor) hP, RelC_k hk (by repeat' constructor) (fun p => by repeat' constructor) hC, RelA_k hk (by repeat' constructor) (fun p => by repeat' constructor) hAc, (RelS_one (J := J) (M := M) (c := 2) (fun t t1 t2 te => by have q : t = 0 ∨ t = 1 ∨ t = 2 ∨ t = 3 ∨ t = 4 ∨ t = 5 := (by omega); rcases q with rfl | rfl | rfl | rfl | rfl | rfl <;> first | exact absurd rfl te | exact ⟨fun j => rfl, rfl, rfl⟩) (fun t t1 t2 te => by have q : t = 0 ∨ t = 1 ∨ t = 2 ∨ t = 3 ∨ t = 4 ∨ t = 5 := (by omega); rcases q with rfl | rfl | rfl | rfl | rfl | rfl <;> first | exact absurd rfl te | exact ⟨fun j => rfl, fun j j1 j2 => (zU_x (by omega)).trans (zU_n (by decide))⟩) rfl (show RelS1 _ _ _ from ⟨(hS 2 (by decide) (by decide)).1, (hS 2 (by decide) (by decide)).2.1, s3, s4, (hS 2 (by decide) (by decide)).2.2.2.2.1, fun _ => ⟨s7.symm, fun k k1 k2 => by show (if k = i then 0 else M 43 k) = (if 120 + k = 120 + i then 0 else M 85 (120 + k)); by_cases e : k = i; rw [if_pos e, if_pos (by omega)]; rw [if_neg e, if_neg (by omega)]; exact s8 k k1 k2, (fun hq => absurd (Eq.trans (Eq.symm hq) hso) (by decide))⟩⟩) hS), RelT_k hk (by repeat' constructor) (fun p => by repeat' constructor) hTp, RelX_k hk (by repeat' constructor) (fun p => by repeat' constructor) hX, RelW_k hk ⟨rfl, rfl⟩ trivial hW⟩
        · refine z_pushL (z := 1) rfl rfl ?_
          refine z_goto rfl ?_
          refine z_last (e := 1) rfl rfl (by decide) (by omega) rfl ?_
          refine z_pushI (z := 1) rfl rfl ?_
          refine z_iret rfl rfl ?_
          refine ⟨?_, ?_⟩
          · first | rfl | exact congrArg (fun v => some (zi v)) (by omega) | (exfalso; omega)
          · exfalso
            omega
      · refine z_pushL (z := 1) rfl rfl ?_
        refine z_goto rfl ?_
        refine z_lret rfl rfl ?_
        show zW _ _ _ _ _ _ _ _ _ _
        refine z_last (e := 1) rfl rfl (by decide) (by omega) rfl ?_
        refine z_vret rfl rfl ?_
        show zW _ _ _ _ _ _ _ _ _ _
        refine z_pushI (z := 1) rfl rfl ?_
        refine z_iret rfl rfl ?_
        refine ⟨_, rfl, ?_⟩
        show zW _ _ _ _ [some (.ref 50), some (zi 2), some (zi i), some (zl v), none, none, none] _ _ _ _ _
        refine z_aload rfl rfl ?_
        refine z_iload rfl rfl ?_
        refine z_iload rfl rfl ?_
        refine z_callVi (As := [_, _]) (le := [some _, some _, some _]) rfl rfl rfl (Nat.le_of_ble_eq_true rfl) (Nat.le_of_ble_eq_true rfl) rfl ?_
        refine z_iload rfl rfl ?_
        refine z_callSi (As := [_]) (le := [some _]) rfl rfl (Nat.le_of_ble_eq_true rfl) (Nat.le_of_ble_eq_true rfl) rfl ?_
        refine z_iload rfl rfl ?_
        refine z_pushI (z := 0) rfl rfl ?_
        refine z_pushI (z := 5) rfl rfl ?_
        refine z_callSi (As := [_, _, _]) (le := [some _, some _, some _]) rfl rfl (Nat.le_of_ble_eq_true rfl) (Nat.le_of_ble_eq_true rfl) rfl ?_
        refine z_iload rfl rfl ?_
        refine z_iload rfl rfl ?_
        refine z_icmp_ltF rfl (by decide) (by decide) (by decide) ?_
        refine z_iload rfl rfl ?_
        refine z_iload rfl rfl ?_
        refine z_icmp_gtF rfl (by decide) (by decide) (by decide) ?_
        refine z_pushI (z := 1) rfl rfl ?_
        refine z_goto rfl ?_
        refine z_bret rfl rfl (by decide) ?_
        show zW _ _ _ _ _ _ _ _ _ _
        refine z_bret rfl rfl (by decide) ?_
        show zW _ _ _ _ _ _ _ _ _ _
        refine z_if_neT rfl (by decide) (by decide) ?_
        refine z_aload rfl rfl ?_
        refine z_getR (r := 83) rfl rfl (hRr _ rm_50_58 (by decide)) ?_
        refine z_iload rfl rfl ?_
        refine z_iald (v := (-6)) rfl rfl (by decide) (by decide) ((e83.trans (by rw [hso]; rfl))) ?_
        refine z_pushI (z := (-1)) rfl rfl ?_
        refine z_icmp_neT rfl (by decide) (by decide) (by decide) ?_
        refine z_aload rfl rfl ?_
        refine z_getR (r := 83) rfl rfl (hRr _ rm_50_58 (by decide)) ?_
        refine z_iload rfl rfl ?_
        refine z_iald (v := (-6)) rfl rfl (by decide) (by decide) ((e83.trans (by rw [hso]; rfl))) ?_
        refine z_if_ltT rfl (by decide) (by decide) ?_
        refine z_iload rfl rfl ?_
        refine z_pushI (z := 0) rfl rfl ?_
        refine z_aload rfl rfl ?_
        refine z_getR (r := 84) rfl rfl (hRr _ rm_50_59 (by decide)) ?_
        refine z_iload rfl rfl ?_
        refine z_iald (v := J 42 3) rfl rfl (by decide) (by decide) (s7) ?_
        refine z_pushI (z := 1) rfl rfl ?_
        refine z_isub (e := (J 42 3) - 1) rfl rfl ?_
        refine z_callSi (As := [_, _, _]) (le := [some _, some _, some _]) rfl rfl (Nat.le_of_ble_eq_true rfl) (Nat.le_of_ble_eq_true rfl) rfl ?_
        refine z_iload rfl rfl ?_
        refine z_iload rfl rfl ?_
        refine z_icmp_ltF rfl (by omega) (by decide) (by omega) ?_
        refine z_iload rfl rfl ?_
        refine z_iload rfl rfl ?_
        refine z_icmp_gtF rfl (by omega) (by omega) (by omega) ?_
        refine z_pushI (z := 1) rfl rfl ?_
        refine z_goto rfl ?_
        refine z_bret rfl rfl (by decide) ?_
        show zW _ _ _ _ _ _ _ _ _ _
        refine z_if_eqF rfl (by decide) (by decide) ?_
        refine z_pushI (z := 0) rfl rfl ?_
        refine z_goto rfl ?_
        refine z_iret rfl rfl ?_
        show zW _ _ _ _ _ _ _ _ _ _
        refine z_istore rfl rfl ?_
        refine z_iload rfl rfl ?_
        refine z_if_geT rfl (by decide) (by decide) ?_
        refine z_pushI (z := (-2)) rfl rfl ?_
        refine z_aload rfl rfl ?_
        refine z_getR (r := 83) rfl rfl (hRr _ rm_50_58 (by decide)) ?_
        refine z_iload rfl rfl ?_
        refine z_iald (v := (-6)) rfl rfl (by decide) (by decide) ((e83.trans (by rw [hso]; rfl))) ?_
        refine z_isub (e := 4) rfl rfl ?_
        refine z_istore rfl rfl ?_
        refine z_aload rfl rfl ?_
        refine z_getR (r := 85) rfl rfl (hRr _ rm_50_60 (by decide)) ?_
        refine z_pushI (z := 60) rfl rfl ?_
        refine z_iload rfl rfl ?_
        refine z_imul (e := 120) rfl rfl ?_
        refine z_iload rfl rfl ?_
        refine z_iadd (e := 120 + i) rfl rfl ?_
        refine z_iload rfl rfl ?_
        refine z_if_neT rfl (by decide) (by decide) ?_
        refine z_iload rfl rfl ?_
        refine z_pushI (z := 1) rfl rfl ?_
        refine z_icmp_neT rfl (by decide) (by decide) (by decide) ?_
        refine z_iload rfl rfl ?_
        refine z_pushI (z := 2) rfl rfl ?_
        refine z_icmp_neT rfl (by decide) (by decide) (by decide) ?_
        refine z_iload rfl rfl ?_
        refine z_pushI (z := 3) rfl rfl ?_
        refine z_icmp_neT rfl (by decide) (by decide) (by decide) ?_
        refine z_lload rfl rfl ?_
        refine z_pushL (z := 0) rfl rfl ?_
        refine z_lcmp_eq rfl rfl (by omega) (by omega) (fun h4 => ?_) (fun h4 => ?_)
        · refine z_pushL (z := 0) rfl rfl ?_
          refine z_last (e := 0) rfl rfl (by decide) (by omega) rfl ?_
          refine z_pushI (z := 1) rfl rfl ?_
          refine z_iret rfl rfl ?_
          refine ⟨?_, ?_⟩
          · first | rfl | exact congrArg (fun v => some (zi v)) (by omega) | (exfalso; omega)
          · exfalso
            omega
        · refine z_pushL (z := 1) rfl rfl ?_
          refine z_goto rfl ?_
          refine z_last (e := 1) rfl rfl (by decide) (by omega) rfl ?_
          refine z_pushI (z := 1) rfl rfl ?_
          refine z_iret rfl rfl ?_
          refine ⟨?_, ?_⟩
          · first | rfl | exact congrArg (fun v => some (zi v)) (by omega) | (exfalso; omega)
          · have hk := (zK_r (k := (kL [] [])) (A := J))
            have hkm := (zK_x (a := 85) (x := 120 + i) (v := 1) (zK_x (a := 43) (x := i) (v := 1) (zK_r (k := (kL [43, 85] [])) (A := M)) rfl) rfl)
            exact ⟨hR, hG, RelY_k hk (by repeat' constructor) (fun p => by repeat' constructor) hY, RelD_k hk (by repeat' constructor) (fun p => by repeat' constructor) hD, RelP_k hk (by repeat' constructor) (fun p => by repeat' constructor) hP, RelC_k hk (by repeat' constructor) (fun p => by repeat' constructor) hC, RelA_k hk (by repeat' constructor) (fun p => by repeat' constructor) hAc, (RelS_one (J := J) (M := M) (c := 2) (fun t t1 t2 te => by have q : t = 0 ∨ t = 1 ∨ t = 2 ∨ t = 3 ∨ t = 4 ∨ t = 5 := (by omega); rcases q with rfl | rfl | rfl | rfl | rfl | rfl <;> first | exact absurd rfl te | exact ⟨fun j => rfl, rfl, rfl⟩) (fun t t1 t2 te => by have q : t = 0 ∨ t = 1 ∨ t = 2 ∨ t = 3 ∨ t = 4 ∨ t = 5 := (by omega); rcases q with rfl | rfl | rfl | rfl | rfl | rfl <;> first | exact absurd rfl te | exact ⟨fun j => rfl, fun j j1 j2 => (zU_x (by omega)).trans (zU_n (by decide))⟩) rfl (show RelS1 _ _ _ from ⟨(hS 2 (by decide) (by decide)).1, (hS 2 (by decide) (by decide)).2.1, s3, s4, (hS 2 (by decide) (by decide)).2.2.2.2.1, fun _ => ⟨s7.symm, fun k k1 k2 => by show (if k = i then 1 else M 43 k) = (if 120 + k = 120 + i then 1 else M 85 (120 + k)); by_cases e : k = i; rw [if_pos e, if_pos (by omega)]; rw [if_neg e, if_neg (by omega)]; exact s8 k k1 k2, (fun hq => absurd (Eq.trans (Eq.symm hq) hso) (by decide))⟩⟩) hS), RelT_k hk (by repeat' constructor) (fun p => by repeat' constructor) hTp, RelX_k hk (by repeat' constructor) (fun p => by repeat' constructor) hX, RelW_k hk ⟨rfl, rfl⟩ trivial hW⟩
theorem st_element_30 {X : Nat × (Nat → Int32)} {d : Nat} {J M : zA} {R : zR} {i : Int} (hr : Rel X J M R) (hi : -2147483648 ≤ i ∧ i < 2147483648) (hh : J 44 0 = 0) : zW X (d + 20) 139 0 (gEn 139 [(.ref 0), (zi 3), (zi i)]) [] J M R (stL X (d + 20) 253 [(zi 3), (zi i)]) := by
  have hr0 := hr
  obtain ⟨hR, hG, hY, hD, hP, hC, hAc, hS, hTp, hX, hW⟩ := hr0
  have hRr : zRoR R := zRoR_of hR
  have hA0 := hAc
  obtain ⟨a1, a2, a3, a4, a5, a6⟩ := hA0
  have e83 : J 83 3 = -1 := (hS 3 (by decide) (by decide)).1.symm.trans (cH_0 hh)
  have s3 : 0 ≤ J 44 2 ∧ J 44 2 ≤ 4 := (hS 3 (by decide) (by decide)).2.2.1
  have s4 : 0 ≤ J 44 3 ∧ J 44 3 ≤ 60 := (hS 3 (by decide) (by decide)).2.2.2.1
  show zW _ _ _ _ [some (.ref 0), some (zi 3), some (zi i)] _ _ _ _ _
  refine z_iload rfl rfl ?_
  refine z_callSi (As := [_]) (le := [some _]) rfl rfl (Nat.le_of_ble_eq_true rfl) (Nat.le_of_ble_eq_true rfl) rfl ?_
  refine z_iload rfl rfl ?_
  refine z_if_ltF rfl (by decide) (by decide) ?_
  refine z_iload rfl rfl ?_
  refine z_pushI (z := 6) rfl rfl ?_
  refine z_icmp_geF rfl (by decide) (by decide) (by decide) ?_
  refine z_pushI (z := 1) rfl rfl ?_
  refine z_goto rfl ?_
  refine z_bret rfl rfl (by decide) ?_
  show zW _ _ _ _ _ _ _ _ _ _
  refine z_if_eqF rfl (by decide) (by decide) ?_
  refine z_aload rfl rfl ?_
  refine z_getR (r := 37) rfl rfl (hR _ rm_0_11) ?_
  refine z_iload rfl rfl ?_
  refine z_aald (r := 44) rfl rfl (by decide) (by decide) (hR _ rm_37_3) ?_
  refine z_iload rfl rfl ?_
  refine z_callVi (As := [_]) (le := [some _, some _]) rfl rfl rfl (Nat.le_of_ble_eq_true rfl) (Nat.le_of_ble_eq_true rfl) rfl ?_
  refine z_aload rfl rfl ?_
  refine z_getI (v := 0) rfl rfl (hh) ?_
  refine z_if_neF rfl (by decide) (by decide) ?_
  refine z_pushI (z := (-11)) rfl rfl ?_
  refine z_iret rfl rfl ?_
  show zW _ _ _ _ _ _ _ _ _ _
  refine z_if_geF rfl (by decide) (by decide) ?_
  refine z_pushL (z := (-9223372036854775808)) rfl rfl ?_
  refine z_lret rfl rfl ?_
  refine ⟨_, rfl, ?_⟩
  show zW _ _ _ _ [some (.ref 50), some (zi 3), some (zi i)] _ _ _ _ _
  refine z_aload rfl rfl ?_
  refine z_iload rfl rfl ?_
  refine z_iload rfl rfl ?_
  refine z_callVi (As := [_, _]) (le := [some _, some _, some _]) rfl rfl rfl (Nat.le_of_ble_eq_true rfl) (Nat.le_of_ble_eq_true rfl) rfl ?_
  refine z_iload rfl rfl ?_
  refine z_callSi (As := [_]) (le := [some _]) rfl rfl (Nat.le_of_ble_eq_true rfl) (Nat.le_of_ble_eq_true rfl) rfl ?_
  refine z_iload rfl rfl ?_
  refine z_pushI (z := 0) rfl rfl ?_
  refine z_pushI (z := 5) rfl rfl ?_
  refine z_callSi (As := [_, _, _]) (le := [some _, some _, some _]) rfl rfl (Nat.le_of_ble_eq_true rfl) (Nat.le_of_ble_eq_true rfl) rfl ?_
  refine z_iload rfl rfl ?_
  refine z_iload rfl rfl ?_
  refine z_icmp_ltF rfl (by decide) (by decide) (by decide) ?_
  refine z_iload rfl rfl ?_
  refine z_iload rfl rfl ?_
  refine z_icmp_gtF rfl (by decide) (by decide) (by decide) ?_
  refine z_pushI (z := 1) rfl rfl ?_
  refine z_goto rfl ?_
  refine z_bret rfl rfl (by decide) ?_
  show zW _ _ _ _ _ _ _ _ _ _
  refine z_bret rfl rfl (by decide) ?_
  show zW _ _ _ _ _ _ _ _ _ _
  refine z_if_neT rfl (by decide) (by decide) ?_
  refine z_aload rfl rfl ?_
  refine z_getR (r := 83) rfl rfl (hRr _ rm_50_58 (by decide)) ?_
  refine z_iload rfl rfl ?_
  refine z_iald (v := (-1)) rfl rfl (by decide) (by decide) (e83) ?_
  refine z_pushI (z := (-1)) rfl rfl ?_
  refine z_icmp_neF rfl (by decide) (by decide) (by decide) ?_
  refine z_pushI (z := (-11)) rfl rfl ?_
  refine z_iret rfl rfl ?_
  show zW _ _ _ _ _ _ _ _ _ _
  refine z_if_geF rfl (by decide) (by decide) ?_
  refine z_pushL (z := (-9223372036854775808)) rfl rfl ?_
  refine z_goto rfl ?_
  refine z_lret rfl rfl ?_
  refine ⟨?_, ?_⟩
  · first | rfl | exact congrArg (fun v => some (zl v)) (by omega) | (exfalso; omega)
  · exact hr
theorem st_put_30 {X : Nat × (Nat → Int32)} {d : Nat} {J M : zA} {R : zR} {i v : Int} (hr : Rel X J M R) (hi : -2147483648 ≤ i ∧ i < 2147483648) (hv : -9223372036854775808 ≤ v ∧ v < 9223372036854775808) (hh : J 44 0 = 0) : zW X (d + 20) 138 0 (gEn 138 [(.ref 0), (zi 3), (zi i), (zl v)]) [] J M R (stP X (d + 20) 252 [(zi 3), (zi i), (zl v)]) := by
  have hr0 := hr
  obtain ⟨hR, hG, hY, hD, hP, hC, hAc, hS, hTp, hX, hW⟩ := hr0
  have hRr : zRoR R := zRoR_of hR
  have hA0 := hAc
  obtain ⟨a1, a2, a3, a4, a5, a6⟩ := hA0
  have e83 : J 83 3 = -1 := (hS 3 (by decide) (by decide)).1.symm.trans (cH_0 hh)
  have s3 : 0 ≤ J 44 2 ∧ J 44 2 ≤ 4 := (hS 3 (by decide) (by decide)).2.2.1
  have s4 : 0 ≤ J 44 3 ∧ J 44 3 ≤ 60 := (hS 3 (by decide) (by decide)).2.2.2.1
  show zW _ _ _ _ [some (.ref 0), some (zi 3), some (zi i), some (zl v), none, none] _ _ _ _ _
  refine z_iload rfl rfl ?_
  refine z_callSi (As := [_]) (le := [some _]) rfl rfl (Nat.le_of_ble_eq_true rfl) (Nat.le_of_ble_eq_true rfl) rfl ?_
  refine z_iload rfl rfl ?_
  refine z_if_ltF rfl (by decide) (by decide) ?_
  refine z_iload rfl rfl ?_
  refine z_pushI (z := 6) rfl rfl ?_
  refine z_icmp_geF rfl (by decide) (by decide) (by decide) ?_
  refine z_pushI (z := 1) rfl rfl ?_
  refine z_goto rfl ?_
  refine z_bret rfl rfl (by decide) ?_
  show zW _ _ _ _ _ _ _ _ _ _
  refine z_if_neT rfl (by decide) (by decide) ?_
  refine z_aload rfl rfl ?_
  refine z_getR (r := 37) rfl rfl (hR _ rm_0_11) ?_
  refine z_iload rfl rfl ?_
  refine z_aald (r := 44) rfl rfl (by decide) (by decide) (hR _ rm_37_3) ?_
  refine z_iload rfl rfl ?_
  refine z_callVi (As := [_]) (le := [some _, some _]) rfl rfl rfl (Nat.le_of_ble_eq_true rfl) (Nat.le_of_ble_eq_true rfl) rfl ?_
  refine z_aload rfl rfl ?_
  refine z_getI (v := 0) rfl rfl (hh) ?_
  refine z_if_neF rfl (by decide) (by decide) ?_
  refine z_pushI (z := (-11)) rfl rfl ?_
  refine z_iret rfl rfl ?_
  show zW _ _ _ _ _ _ _ _ _ _
  refine z_istore rfl rfl ?_
  refine z_iload rfl rfl ?_
  refine z_if_geF rfl (by decide) (by decide) ?_
  refine z_iload rfl rfl ?_
  refine z_iret rfl rfl ?_
  refine ⟨_, rfl, ?_⟩
  show zW _ _ _ _ [some (.ref 50), some (zi 3), some (zi i), some (zl v), none, none, none] _ _ _ _ _
  refine z_aload rfl rfl ?_
  refine z_iload rfl rfl ?_
  refine z_iload rfl rfl ?_
  refine z_callVi (As := [_, _]) (le := [some _, some _, some _]) rfl rfl rfl (Nat.le_of_ble_eq_true rfl) (Nat.le_of_ble_eq_true rfl) rfl ?_
  refine z_iload rfl rfl ?_
  refine z_callSi (As := [_]) (le := [some _]) rfl rfl (Nat.le_of_ble_eq_true rfl) (Nat.le_of_ble_eq_true rfl) rfl ?_
  refine z_iload rfl rfl ?_
  refine z_pushI (z := 0) rfl rfl ?_
  refine z_pushI (z := 5) rfl rfl ?_
  refine z_callSi (As := [_, _, _]) (le := [some _, some _, some _]) rfl rfl (Nat.le_of_ble_eq_true rfl) (Nat.le_of_ble_eq_true rfl) rfl ?_
  refine z_iload rfl rfl ?_
  refine z_iload rfl rfl ?_
  refine z_icmp_ltF rfl (by decide) (by decide) (by decide) ?_
  refine z_iload rfl rfl ?_
  refine z_iload rfl rfl ?_
  refine z_icmp_gtF rfl (by decide) (by decide) (by decide) ?_
  refine z_pushI (z := 1) rfl rfl ?_
  refine z_goto rfl ?_
  refine z_bret rfl rfl (by decide) ?_
  show zW _ _ _ _ _ _ _ _ _ _
  refine z_bret rfl rfl (by decide) ?_
  show zW _ _ _ _ _ _ _ _ _ _
  refine z_if_neT rfl (by decide) (by decide) ?_
  refine z_aload rfl rfl ?_
  refine z_getR (r := 83) rfl rfl (hRr _ rm_50_58 (by decide)) ?_
  refine z_iload rfl rfl ?_
  refine z_iald (v := (-1)) rfl rfl (by decide) (by decide) (e83) ?_
  refine z_pushI (z := (-1)) rfl rfl ?_
  refine z_icmp_neF rfl (by decide) (by decide) (by decide) ?_
  refine z_pushI (z := (-11)) rfl rfl ?_
  refine z_iret rfl rfl ?_
  show zW _ _ _ _ _ _ _ _ _ _
  refine z_istore rfl rfl ?_
  refine z_iload rfl rfl ?_
  refine z_if_geF rfl (by decide) (by decide) ?_
  refine z_iload rfl rfl ?_
  refine z_iret rfl rfl ?_
  refine ⟨?_, ?_⟩
  · first | rfl | exact congrArg (fun v => some (zi v)) (by omega) | (exfalso; omega)
  · exact hr
theorem st_element_31 {X : Nat × (Nat → Int32)} {d : Nat} {J M : zA} {R : zR} {i : Int} (hr : Rel X J M R) (hi : -2147483648 ≤ i ∧ i < 2147483648) (hh : J 44 0 = 1) : zW X (d + 20) 139 0 (gEn 139 [(.ref 0), (zi 3), (zi i)]) [] J M R (stL X (d + 20) 253 [(zi 3), (zi i)]) := by
  have hr0 := hr
  obtain ⟨hR, hG, hY, hD, hP, hC, hAc, hS, hTp, hX, hW⟩ := hr0
  have hRr : zRoR R := zRoR_of hR
  have hA0 := hAc
  obtain ⟨a1, a2, a3, a4, a5, a6⟩ := hA0
  have e83 : J 83 3 = J 44 1 := (hS 3 (by decide) (by decide)).1.symm.trans (cH_1 hh)
  have s3 : 0 ≤ J 44 2 ∧ J 44 2 ≤ 4 := (hS 3 (by decide) (by decide)).2.2.1
  have s4 : 0 ≤ J 44 3 ∧ J 44 3 ≤ 60 := (hS 3 (by decide) (by decide)).2.2.2.1
  have s5 : 0 ≤ J 44 1 ∧ J 44 1 < J 34 1 := (hS 3 (by decide) (by decide)).2.2.2.2.1 hh
  show zW _ _ _ _ [some (.ref 0), some (zi 3), some (zi i)] _ _ _ _ _
  refine z_iload rfl rfl ?_
  refine z_callSi (As := [_]) (le := [some _]) rfl rfl (Nat.le_of_ble_eq_true rfl) (Nat.le_of_ble_eq_true rfl) rfl ?_
  refine z_iload rfl rfl ?_
  refine z_if_ltF rfl (by decide) (by decide) ?_
  refine z_iload rfl rfl ?_
  refine z_pushI (z := 6) rfl rfl ?_
  refine z_icmp_geF rfl (by decide) (by decide) (by decide) ?_
  refine z_pushI (z := 1) rfl rfl ?_
  refine z_goto rfl ?_
  refine z_bret rfl rfl (by decide) ?_
  show zW _ _ _ _ _ _ _ _ _ _
  refine z_if_eqF rfl (by decide) (by decide) ?_
  refine z_aload rfl rfl ?_
  refine z_getR (r := 37) rfl rfl (hR _ rm_0_11) ?_
  refine z_iload rfl rfl ?_
  refine z_aald (r := 44) rfl rfl (by decide) (by decide) (hR _ rm_37_3) ?_
  refine z_iload rfl rfl ?_
  refine z_callVi (As := [_]) (le := [some _, some _]) rfl rfl rfl (Nat.le_of_ble_eq_true rfl) (Nat.le_of_ble_eq_true rfl) rfl ?_
  refine z_aload rfl rfl ?_
  refine z_getI (v := 1) rfl rfl (hh) ?_
  refine z_if_neT rfl (by decide) (by decide) ?_
  refine z_aload rfl rfl ?_
  refine z_getI (v := 1) rfl rfl (hh) ?_
  refine z_pushI (z := 2) rfl rfl ?_
  refine z_icmp_eqF rfl (by decide) (by decide) (by decide) ?_
  refine z_pushI (z := (-12)) rfl rfl ?_
  refine z_iret rfl rfl ?_
  show zW _ _ _ _ _ _ _ _ _ _
  refine z_if_geF rfl (by decide) (by decide) ?_
  refine z_pushL (z := (-9223372036854775808)) rfl rfl ?_
  refine z_lret rfl rfl ?_
  refine ⟨_, rfl, ?_⟩
  show zW _ _ _ _ [some (.ref 50), some (zi 3), some (zi i)] _ _ _ _ _
  refine z_aload rfl rfl ?_
  refine z_iload rfl rfl ?_
  refine z_iload rfl rfl ?_
  refine z_callVi (As := [_, _]) (le := [some _, some _, some _]) rfl rfl rfl (Nat.le_of_ble_eq_true rfl) (Nat.le_of_ble_eq_true rfl) rfl ?_
  refine z_iload rfl rfl ?_
  refine z_callSi (As := [_]) (le := [some _]) rfl rfl (Nat.le_of_ble_eq_true rfl) (Nat.le_of_ble_eq_true rfl) rfl ?_
  refine z_iload rfl rfl ?_
  refine z_pushI (z := 0) rfl rfl ?_
  refine z_pushI (z := 5) rfl rfl ?_
  refine z_callSi (As := [_, _, _]) (le := [some _, some _, some _]) rfl rfl (Nat.le_of_ble_eq_true rfl) (Nat.le_of_ble_eq_true rfl) rfl ?_
  refine z_iload rfl rfl ?_
  refine z_iload rfl rfl ?_
  refine z_icmp_ltF rfl (by decide) (by decide) (by decide) ?_
  refine z_iload rfl rfl ?_
  refine z_iload rfl rfl ?_
  refine z_icmp_gtF rfl (by decide) (by decide) (by decide) ?_
  refine z_pushI (z := 1) rfl rfl ?_
  refine z_goto rfl ?_
  refine z_bret rfl rfl (by decide) ?_
  show zW _ _ _ _ _ _ _ _ _ _
  refine z_bret rfl rfl (by decide) ?_
  show zW _ _ _ _ _ _ _ _ _ _
  refine z_if_neT rfl (by decide) (by decide) ?_
  refine z_aload rfl rfl ?_
  refine z_getR (r := 83) rfl rfl (hRr _ rm_50_58 (by decide)) ?_
  refine z_iload rfl rfl ?_
  refine z_iald (v := J 44 1) rfl rfl (by decide) (by decide) (e83) ?_
  refine z_pushI (z := (-1)) rfl rfl ?_
  refine z_icmp_ne rfl (by omega) (by decide) (fun h1 => ?_) (fun h1 => ?_)
  · refine z_aload rfl rfl ?_
    refine z_getR (r := 83) rfl rfl (hRr _ rm_50_58 (by decide)) ?_
    refine z_iload rfl rfl ?_
    refine z_iald (v := J 44 1) rfl rfl (by decide) (by decide) (e83) ?_
    refine z_if_lt rfl (by omega) (fun h2 => ?_) (fun h2 => ?_)
    · refine z_iload rfl rfl ?_
      refine z_pushI (z := 0) rfl rfl ?_
      refine z_aload rfl rfl ?_
      refine z_getR (r := 84) rfl rfl (hRr _ rm_50_59 (by decide)) ?_
      refine z_iload rfl rfl ?_
      refine z_iald (v := J 84 3) rfl rfl (by decide) (by decide) (rfl) ?_
      refine z_pushI (z := 1) rfl rfl ?_
      refine z_isub (e := (J 84 3) - 1) rfl rfl ?_
      refine z_callSi (As := [_, _, _]) (le := [some _, some _, some _]) rfl rfl (Nat.le_of_ble_eq_true rfl) (Nat.le_of_ble_eq_true rfl) rfl ?_
      refine z_iload rfl rfl ?_
      refine z_iload rfl rfl ?_
      refine z_icmp_lt rfl (by omega) (by decide) (fun h3 => ?_) (fun h3 => ?_)
      · refine z_pushI (z := 0) rfl rfl ?_
        refine z_bret rfl rfl (by decide) ?_
        show zW _ _ _ _ _ _ _ _ _ _
        refine z_if_eqT rfl (by decide) (by decide) ?_
        refine z_pushI (z := (-13)) rfl rfl ?_
        refine z_iret rfl rfl ?_
        show zW _ _ _ _ _ _ _ _ _ _
        refine z_if_geF rfl (by decide) (by decide) ?_
        refine z_pushL (z := (-9223372036854775808)) rfl rfl ?_
        refine z_goto rfl ?_
        refine z_lret rfl rfl ?_
        refine ⟨?_, ?_⟩
        · first | rfl | exact congrArg (fun v => some (zl v)) (by omega) | (exfalso; omega)
        · exact hr
      · refine z_iload rfl rfl ?_
        refine z_iload rfl rfl ?_
        refine z_icmp_gt rfl (by omega) (by omega) (fun h4 => ?_) (fun h4 => ?_)
        · refine z_pushI (z := 0) rfl rfl ?_
          refine z_bret rfl rfl (by decide) ?_
          show zW _ _ _ _ _ _ _ _ _ _
          refine z_if_eqT rfl (by decide) (by decide) ?_
          refine z_pushI (z := (-13)) rfl rfl ?_
          refine z_iret rfl rfl ?_
          show zW _ _ _ _ _ _ _ _ _ _
          refine z_if_geF rfl (by decide) (by decide) ?_
          refine z_pushL (z := (-9223372036854775808)) rfl rfl ?_
          refine z_goto rfl ?_
          refine z_lret rfl rfl ?_
          refine ⟨?_, ?_⟩
          · first | rfl | exact congrArg (fun v => some (zl v)) (by omega) | (exfalso; omega)
          · exact hr
        · refine z_pushI (z := 1) rfl rfl ?_
          refine z_goto rfl ?_
          refine z_bret rfl rfl (by decide) ?_
          show zW _ _ _ _ _ _ _ _ _ _
          refine z_if_eqF rfl (by decide) (by decide) ?_
          refine z_pushI (z := 0) rfl rfl ?_
          refine z_goto rfl ?_
          refine z_iret rfl rfl ?_
          show zW _ _ _ _ _ _ _ _ _ _
          refine z_if_geT rfl (by decide) (by decide) ?_
          refine z_aload rfl rfl ?_
          refine z_getR (r := 85) rfl rfl (hRr _ rm_50_60 (by decide)) ?_
          refine z_pushI (z := 60) rfl rfl ?_
          refine z_iload rfl rfl ?_
          refine z_imul (e := 180) rfl rfl ?_
          refine z_iload rfl rfl ?_
          refine z_iadd (e := 180 + i) rfl rfl ?_
          refine z_lald (v := M 85 (180 + i)) rfl rfl (by decide) (by omega) (rfl) ?_
          refine z_lret rfl rfl ?_
          refine ⟨?_, ?_⟩
          · first | rfl | exact congrArg (fun v => some (zl v)) (by omega) | (exfalso; omega)
          · exact hr
    · refine z_pushI (z := (-12)) rfl rfl ?_
      refine z_iret rfl rfl ?_
      show zW _ _ _ _ _ _ _ _ _ _
      refine z_if_geF rfl (by decide) (by decide) ?_
      refine z_pushL (z := (-9223372036854775808)) rfl rfl ?_
      refine z_goto rfl ?_
      refine z_lret rfl rfl ?_
      refine ⟨?_, ?_⟩
      · first | rfl | exact congrArg (fun v => some (zl v)) (by omega) | (exfalso; omega)
      · exact hr
  · refine z_pushI (z := (-11)) rfl rfl ?_
    refine z_iret rfl rfl ?_
    show zW _ _ _ _ _ _ _ _ _ _
    refine z_if_geF rfl (by decide) (by decide) ?_
    refine z_pushL (z := (-9223372036854775808)) rfl rfl ?_
    refine z_goto rfl ?_
    refine z_lret rfl rfl ?_
    refine ⟨?_, ?_⟩
    · first | rfl | exact congrArg (fun v => some (zl v)) (by omega) | (exfalso; omega)
    · exact hr
theorem st_put_31 {X : Nat × (Nat → Int32)} {d : Nat} {J M : zA} {R : zR} {i v : Int} (hr : Rel X J M R) (hi : -2147483648 ≤ i ∧ i < 2147483648) (hv : -9223372036854775808 ≤ v ∧ v < 9223372036854775808) (hh : J 44 0 = 1) : zW X (d + 20) 138 0 (gEn 138 [(.ref 0), (zi 3), (zi i), (zl v)]) [] J M R (stP X (d + 20) 252 [(zi 3), (zi i), (zl v)]) := by
  have hr0 := hr
  obtain ⟨hR, hG, hY, hD, hP, hC, hAc, hS, hTp, hX, hW⟩ := hr0
  have hRr : zRoR R := zRoR_of hR
  have hA0 := hAc
  obtain ⟨a1, a2, a3, a4, a5, a6⟩ := hA0
  have e83 : J 83 3 = J 44 1 := (hS 3 (by decide) (by decide)).1.symm.trans (cH_1 hh)
  have s3 : 0 ≤ J 44 2 ∧ J 44 2 ≤ 4 := (hS 3 (by decide) (by decide)).2.2.1
  have s4 : 0 ≤ J 44 3 ∧ J 44 3 ≤ 60 := (hS 3 (by decide) (by decide)).2.2.2.1
  have s5 : 0 ≤ J 44 1 ∧ J 44 1 < J 34 1 := (hS 3 (by decide) (by decide)).2.2.2.2.1 hh
  show zW _ _ _ _ [some (.ref 0), some (zi 3), some (zi i), some (zl v), none, none] _ _ _ _ _
  refine z_iload rfl rfl ?_
  refine z_callSi (As := [_]) (le := [some _]) rfl rfl (Nat.le_of_ble_eq_true rfl) (Nat.le_of_ble_eq_true rfl) rfl ?_
  refine z_iload rfl rfl ?_
  refine z_if_ltF rfl (by decide) (by decide) ?_
  refine z_iload rfl rfl ?_
  refine z_pushI (z := 6) rfl rfl ?_
  refine z_icmp_geF rfl (by decide) (by decide) (by decide) ?_
  refine z_pushI (z := 1) rfl rfl ?_
  refine z_goto rfl ?_
  refine z_bret rfl rfl (by decide) ?_
  show zW _ _ _ _ _ _ _ _ _ _
  refine z_if_neT rfl (by decide) (by decide) ?_
  refine z_aload rfl rfl ?_
  refine z_getR (r := 37) rfl rfl (hR _ rm_0_11) ?_
  refine z_iload rfl rfl ?_
  refine z_aald (r := 44) rfl rfl (by decide) (by decide) (hR _ rm_37_3) ?_
  refine z_iload rfl rfl ?_
  refine z_callVi (As := [_]) (le := [some _, some _]) rfl rfl rfl (Nat.le_of_ble_eq_true rfl) (Nat.le_of_ble_eq_true rfl) rfl ?_
  refine z_aload rfl rfl ?_
  refine z_getI (v := 1) rfl rfl (hh) ?_
  refine z_if_neT rfl (by decide) (by decide) ?_
  refine z_aload rfl rfl ?_
  refine z_getI (v := 1) rfl rfl (hh) ?_
  refine z_pushI (z := 2) rfl rfl ?_
  refine z_icmp_eqF rfl (by decide) (by decide) (by decide) ?_
  refine z_pushI (z := (-12)) rfl rfl ?_
  refine z_iret rfl rfl ?_
  show zW _ _ _ _ _ _ _ _ _ _
  refine z_istore rfl rfl ?_
  refine z_iload rfl rfl ?_
  refine z_if_geF rfl (by decide) (by decide) ?_
  refine z_iload rfl rfl ?_
  refine z_iret rfl rfl ?_
  refine ⟨_, rfl, ?_⟩
  show zW _ _ _ _ [some (.ref 50), some (zi 3), some (zi i), some (zl v), none, none, none] _ _ _ _ _
  refine z_aload rfl rfl ?_
  refine z_iload rfl rfl ?_
  refine z_iload rfl rfl ?_
  refine z_callVi (As := [_, _]) (le := [some _, some _, some _]) rfl rfl rfl (Nat.le_of_ble_eq_true rfl) (Nat.le_of_ble_eq_true rfl) rfl ?_
  refine z_iload rfl rfl ?_
  refine z_callSi (As := [_]) (le := [some _]) rfl rfl (Nat.le_of_ble_eq_true rfl) (Nat.le_of_ble_eq_true rfl) rfl ?_
  refine z_iload rfl rfl ?_
  refine z_pushI (z := 0) rfl rfl ?_
  refine z_pushI (z := 5) rfl rfl ?_
  refine z_callSi (As := [_, _, _]) (le := [some _, some _, some _]) rfl rfl (Nat.le_of_ble_eq_true rfl) (Nat.le_of_ble_eq_true rfl) rfl ?_
  refine z_iload rfl rfl ?_
  refine z_iload rfl rfl ?_
  refine z_icmp_ltF rfl (by decide) (by decide) (by decide) ?_
  refine z_iload rfl rfl ?_
  refine z_iload rfl rfl ?_
  refine z_icmp_gtF rfl (by decide) (by decide) (by decide) ?_
  refine z_pushI (z := 1) rfl rfl ?_
  refine z_goto rfl ?_
  refine z_bret rfl rfl (by decide) ?_
  show zW _ _ _ _ _ _ _ _ _ _
  refine z_bret rfl rfl (by decide) ?_
  show zW _ _ _ _ _ _ _ _ _ _
  refine z_if_neT rfl (by decide) (by decide) ?_
  refine z_aload rfl rfl ?_
  refine z_getR (r := 83) rfl rfl (hRr _ rm_50_58 (by decide)) ?_
  refine z_iload rfl rfl ?_
  refine z_iald (v := J 44 1) rfl rfl (by decide) (by decide) (e83) ?_
  refine z_pushI (z := (-1)) rfl rfl ?_
  refine z_icmp_ne rfl (by omega) (by decide) (fun h1 => ?_) (fun h1 => ?_)
  · refine z_aload rfl rfl ?_
    refine z_getR (r := 83) rfl rfl (hRr _ rm_50_58 (by decide)) ?_
    refine z_iload rfl rfl ?_
    refine z_iald (v := J 44 1) rfl rfl (by decide) (by decide) (e83) ?_
    refine z_if_lt rfl (by omega) (fun h2 => ?_) (fun h2 => ?_)
    · refine z_iload rfl rfl ?_
      refine z_pushI (z := 0) rfl rfl ?_
      refine z_aload rfl rfl ?_
      refine z_getR (r := 84) rfl rfl (hRr _ rm_50_59 (by decide)) ?_
      refine z_iload rfl rfl ?_
      refine z_iald (v := J 84 3) rfl rfl (by decide) (by decide) (rfl) ?_
      refine z_pushI (z := 1) rfl rfl ?_
      refine z_isub (e := (J 84 3) - 1) rfl rfl ?_
      refine z_callSi (As := [_, _, _]) (le := [some _, some _, some _]) rfl rfl (Nat.le_of_ble_eq_true rfl) (Nat.le_of_ble_eq_true rfl) rfl ?_
      refine z_iload rfl rfl ?_
      refine z_iload rfl rfl ?_
      refine z_icmp_lt rfl (by omega) (by decide) (fun h3 => ?_) (fun h3 => ?_)
      · refine z_pushI (z := 0) rfl rfl ?_
        refine z_bret rfl rfl (by decide) ?_
        show zW _ _ _ _ _ _ _ _ _ _
        refine z_if_eqT rfl (by decide) (by decide) ?_
        refine z_pushI (z := (-13)) rfl rfl ?_
        refine z_iret rfl rfl ?_
        show zW _ _ _ _ _ _ _ _ _ _
        refine z_istore rfl rfl ?_
        refine z_iload rfl rfl ?_
        refine z_if_geF rfl (by decide) (by decide) ?_
        refine z_iload rfl rfl ?_
        refine z_iret rfl rfl ?_
        refine ⟨?_, ?_⟩
        · first | rfl | exact congrArg (fun v => some (zi v)) (by omega) | (exfalso; omega)
        · exact hr
      · refine z_iload rfl rfl ?_
        refine z_iload rfl rfl ?_
        refine z_icmp_gt rfl (by omega) (by omega) (fun h4 => ?_) (fun h4 => ?_)
        · refine z_pushI (z := 0) rfl rfl ?_
          refine z_bret rfl rfl (by decide) ?_
          show zW _ _ _ _ _ _ _ _ _ _
          refine z_if_eqT rfl (by decide) (by decide) ?_
          refine z_pushI (z := (-13)) rfl rfl ?_
          refine z_iret rfl rfl ?_
          show zW _ _ _ _ _ _ _ _ _ _
          refine z_istore rfl rfl ?_
          refine z_iload rfl rfl ?_
          refine z_if_geF rfl (by decide) (by decide) ?_
          refine z_iload rfl rfl ?_
          refine z_iret rfl rfl ?_
          refine ⟨?_, ?_⟩
          · first | rfl | exact congrArg (fun v => some (zi v)) (by omega) | (exfalso; omega)
          · exact hr
        · refine z_pushI (z := 1) rfl rfl ?_
          refine z_goto rfl ?_
          refine z_bret rfl rfl (by decide) ?_
          show zW _ _ _ _ _ _ _ _ _ _
          refine z_if_eqF rfl (by decide) (by decide) ?_
          refine z_pushI (z := 0) rfl rfl ?_
          refine z_goto rfl ?_
          refine z_iret rfl rfl ?_
          show zW _ _ _ _ _ _ _ _ _ _
          refine z_istore rfl rfl ?_
          refine z_iload rfl rfl ?_
          refine z_if_geT rfl (by decide) (by decide) ?_
          refine z_pushI (z := (-2)) rfl rfl ?_
          refine z_aload rfl rfl ?_
          refine z_getR (r := 83) rfl rfl (hRr _ rm_50_58 (by decide)) ?_
          refine z_iload rfl rfl ?_
          refine z_iald (v := J 44 1) rfl rfl (by decide) (by decide) (e83) ?_
          refine z_isub (e := (-2) - (J 44 1)) rfl rfl ?_
          refine z_istore rfl rfl ?_
          refine z_aload rfl rfl ?_
          refine z_getR (r := 85) rfl rfl (hRr _ rm_50_60 (by decide)) ?_
          refine z_pushI (z := 60) rfl rfl ?_
          refine z_iload rfl rfl ?_
          refine z_imul (e := 180) rfl rfl ?_
          refine z_iload rfl rfl ?_
          refine z_iadd (e := 180 + i) rfl rfl ?_
          refine z_iload rfl rfl ?_
          refine z_if_ne rfl (by omega) (fun h5 => ?_) (fun h5 => ?_)
          · refine z_iload rfl rfl ?_
            refine z_pushI (z := 1) rfl rfl ?_
            refine z_icmp_ne rfl (by omega) (by decide) (fun h6 => ?_) (fun h6 => ?_)
            · refine z_iload rfl rfl ?_
              refine z_pushI (z := 2) rfl rfl ?_
              refine z_icmp_ne rfl (by omega) (by decide) (fun h7 => ?_) (fun h7 => ?_)
              · refine z_iload rfl rfl ?_
                refine z_pushI (z := 3) rfl rfl ?_
                refine z_icmp_ne rfl (by omega) (by decide) (fun h8 => ?_) (fun h8 => ?_)
                · refine z_lload rfl rfl ?_
                  refine z_pushL (z := 0) rfl rfl ?_
                  refine z_lcmp_eq rfl rfl (by omega) (by omega) (fun h9 => ?_) (fun h9 => ?_)
                  · refine z_pushL (z := 0) rfl rfl ?_
                    refine z_last (e := 0) rfl rfl (by decide) (by omega) rfl ?_
                    refine z_pushI (z := 1) rfl rfl ?_
                    refine z_iret rfl rfl ?_
                    refine ⟨?_, ?_⟩
                    · first | rfl | exact congrArg (fun v => some (zi v)) (by omega) | (exfalso; omega)
                    · exfalso
                      omega
                  · refine z_pushL (z := 1) rfl rfl ?_
                    refine z_goto rfl ?_
                    refine z_last (e := 1) rfl rfl (by decide) (by omega) rfl ?_
                    refine z_pushI (z := 1) rfl rfl ?_
                    refine z_iret rfl rfl ?_
                    refine ⟨?_, ?_⟩
                    · first | rfl | exact congrArg (fun v => some (zi v)) (by omega) | (exfalso; omega)
                    · exfalso
                      omega
                · refine z_lload rfl rfl ?_
                  refine z_goto rfl ?_
                  refine z_last (e := v) rfl rfl (by decide) (by omega) rfl ?_
                  refine z_pushI (z := 1) rfl rfl ?_
                  refine z_iret rfl rfl ?_
                  refine ⟨?_, ?_⟩
                  · first | rfl | exact congrArg (fun v => some (zi v)) (by omega) | (exfalso; omega)
                  · exfalso
                    omega
              · refine z_lload rfl rfl ?_
                refine z_l2i rfl ?_
                refine z_topn (e := zn v) rfl ?_
                have q10 := zn_r v
                refine z_i2l rfl (by omega) ?_
                refine z_goto rfl ?_
                refine z_last (e := zn v) rfl rfl (by decide) (by omega) rfl ?_
                refine z_pushI (z := 1) rfl rfl ?_
                refine z_iret rfl rfl ?_
                refine ⟨?_, ?_⟩
                · first | rfl | exact congrArg (fun v => some (zi v)) (by omega) | (exfalso; omega)
                · exfalso
                  omega
            · refine z_lload rfl rfl ?_
              refine z_l2i rfl ?_
              refine z_i2s (e := zh v) rfl rfl ?_
              have q11 := zh_r v
              refine z_i2l rfl (by omega) ?_
              refine z_goto rfl ?_
              refine z_last (e := zh v) rfl rfl (by decide) (by omega) rfl ?_
              refine z_pushI (z := 1) rfl rfl ?_
              refine z_iret rfl rfl ?_
              refine ⟨?_, ?_⟩
              · first | rfl | exact congrArg (fun v => some (zi v)) (by omega) | (exfalso; omega)
              · exfalso
                omega
          · refine z_lload rfl rfl ?_
            refine z_l2i rfl ?_
            refine z_i2b (e := zb v) rfl rfl ?_
            have q12 := zb_r v
            refine z_i2l rfl (by omega) ?_
            refine z_goto rfl ?_
            refine z_last (e := zb v) rfl rfl (by decide) (by omega) rfl ?_
            refine z_pushI (z := 1) rfl rfl ?_
            refine z_iret rfl rfl ?_
            refine ⟨?_, ?_⟩
            · first | rfl | exact congrArg (fun v => some (zi v)) (by omega) | (exfalso; omega)
            · exfalso
              omega
    · refine z_pushI (z := (-12)) rfl rfl ?_
      refine z_iret rfl rfl ?_
      show zW _ _ _ _ _ _ _ _ _ _
      refine z_istore rfl rfl ?_
      refine z_iload rfl rfl ?_
      refine z_if_geF rfl (by decide) (by decide) ?_
      refine z_iload rfl rfl ?_
      refine z_iret rfl rfl ?_
      refine ⟨?_, ?_⟩
      · first | rfl | exact congrArg (fun v => some (zi v)) (by omega) | (exfalso; omega)
      · exact hr
  · refine z_pushI (z := (-11)) rfl rfl ?_
    refine z_iret rfl rfl ?_
    show zW _ _ _ _ _ _ _ _ _ _
    refine z_istore rfl rfl ?_
    refine z_iload rfl rfl ?_
    refine z_if_geF rfl (by decide) (by decide) ?_
    refine z_iload rfl rfl ?_
    refine z_iret rfl rfl ?_
    refine ⟨?_, ?_⟩
    · first | rfl | exact congrArg (fun v => some (zi v)) (by omega) | (exfalso; omega)
    · exact hr
theorem st_element_32 {X : Nat × (Nat → Int32)} {d : Nat} {J M : zA} {R : zR} {i : Int} (hr : Rel X J M R) (hi : -2147483648 ≤ i ∧ i < 2147483648) (hh : J 44 0 = 2) : zW X (d + 20) 139 0 (gEn 139 [(.ref 0), (zi 3), (zi i)]) [] J M R (stL X (d + 20) 253 [(zi 3), (zi i)]) := by
  have hr0 := hr
  obtain ⟨hR, hG, hY, hD, hP, hC, hAc, hS, hTp, hX, hW⟩ := hr0
  have hRr : zRoR R := zRoR_of hR
  have hA0 := hAc
  obtain ⟨a1, a2, a3, a4, a5, a6⟩ := hA0
  have e83 : J 83 3 = -2 - J 44 2 := (hS 3 (by decide) (by decide)).1.symm.trans (cH_2 hh)
  have s3 : 0 ≤ J 44 2 ∧ J 44 2 ≤ 4 := (hS 3 (by decide) (by decide)).2.2.1
  have s4 : 0 ≤ J 44 3 ∧ J 44 3 ≤ 60 := (hS 3 (by decide) (by decide)).2.2.2.1
  have s6 := (hS 3 (by decide) (by decide)).2.2.2.2.2 hh
  have s7 : J 84 3 = J 44 3 := s6.1.symm
  have s8 : ∀ i, 0 ≤ i → i < J 44 3 → M 45 i = M 85 (180 + i) := s6.2.1
  show zW _ _ _ _ [some (.ref 0), some (zi 3), some (zi i)] _ _ _ _ _
  refine z_iload rfl rfl ?_
  refine z_callSi (As := [_]) (le := [some _]) rfl rfl (Nat.le_of_ble_eq_true rfl) (Nat.le_of_ble_eq_true rfl) rfl ?_
  refine z_iload rfl rfl ?_
  refine z_if_ltF rfl (by decide) (by decide) ?_
  refine z_iload rfl rfl ?_
  refine z_pushI (z := 6) rfl rfl ?_
  refine z_icmp_geF rfl (by decide) (by decide) (by decide) ?_
  refine z_pushI (z := 1) rfl rfl ?_
  refine z_goto rfl ?_
  refine z_bret rfl rfl (by decide) ?_
  show zW _ _ _ _ _ _ _ _ _ _
  refine z_if_eqF rfl (by decide) (by decide) ?_
  refine z_aload rfl rfl ?_
  refine z_getR (r := 37) rfl rfl (hR _ rm_0_11) ?_
  refine z_iload rfl rfl ?_
  refine z_aald (r := 44) rfl rfl (by decide) (by decide) (hR _ rm_37_3) ?_
  refine z_iload rfl rfl ?_
  refine z_callVi (As := [_]) (le := [some _, some _]) rfl rfl rfl (Nat.le_of_ble_eq_true rfl) (Nat.le_of_ble_eq_true rfl) rfl ?_
  refine z_aload rfl rfl ?_
  refine z_getI (v := 2) rfl rfl (hh) ?_
  refine z_if_neT rfl (by decide) (by decide) ?_
  refine z_aload rfl rfl ?_
  refine z_getI (v := 2) rfl rfl (hh) ?_
  refine z_pushI (z := 2) rfl rfl ?_
  refine z_icmp_eqT rfl (by decide) (by decide) (by decide) ?_
  refine z_iload rfl rfl ?_
  refine z_if_lt rfl (by omega) (fun h1 => ?_) (fun h1 => ?_)
  · refine z_pushI (z := (-13)) rfl rfl ?_
    refine z_iret rfl rfl ?_
    show zW _ _ _ _ _ _ _ _ _ _
    refine z_if_geF rfl (by decide) (by decide) ?_
    refine z_pushL (z := (-9223372036854775808)) rfl rfl ?_
    refine z_lret rfl rfl ?_
    refine ⟨_, rfl, ?_⟩
    show zW _ _ _ _ [some (.ref 50), some (zi 3), some (zi i)] _ _ _ _ _
    refine z_aload rfl rfl ?_
    refine z_iload rfl rfl ?_
    refine z_iload rfl rfl ?_
    refine z_callVi (As := [_, _]) (le := [some _, some _, some _]) rfl rfl rfl (Nat.le_of_ble_eq_true rfl) (Nat.le_of_ble_eq_true rfl) rfl ?_
    refine z_iload rfl rfl ?_
    refine z_callSi (As := [_]) (le := [some _]) rfl rfl (Nat.le_of_ble_eq_true rfl) (Nat.le_of_ble_eq_true rfl) rfl ?_
    refine z_iload rfl rfl ?_
    refine z_pushI (z := 0) rfl rfl ?_
    refine z_pushI (z := 5) rfl rfl ?_
    refine z_callSi (As := [_, _, _]) (le := [some _, some _, some _]) rfl rfl (Nat.le_of_ble_eq_true rfl) (Nat.le_of_ble_eq_true rfl) rfl ?_
    refine z_iload rfl rfl ?_
    refine z_iload rfl rfl ?_
    refine z_icmp_ltF rfl (by decide) (by decide) (by decide) ?_
    refine z_iload rfl rfl ?_
    refine z_iload rfl rfl ?_
    refine z_icmp_gtF rfl (by decide) (by decide) (by decide) ?_
    refine z_pushI (z := 1) rfl rfl ?_
    refine z_goto rfl ?_
    refine z_bret rfl rfl (by decide) ?_
    show zW _ _ _ _ _ _ _ _ _ _
    refine z_bret rfl rfl (by decide) ?_
    show zW _ _ _ _ _ _ _ _ _ _
    refine z_if_neT rfl (by decide) (by decide) ?_
    refine z_aload rfl rfl ?_
    refine z_getR (r := 83) rfl rfl (hRr _ rm_50_58 (by decide)) ?_
    refine z_iload rfl rfl ?_
    refine z_iald (v := (-2) - (J 44 2)) rfl rfl (by decide) (by decide) (e83) ?_
    refine z_pushI (z := (-1)) rfl rfl ?_
    refine z_icmp_ne rfl (by omega) (by decide) (fun h2 => ?_) (fun h2 => ?_)
    · refine z_aload rfl rfl ?_
      refine z_getR (r := 83) rfl rfl (hRr _ rm_50_58 (by decide)) ?_
      refine z_iload rfl rfl ?_
      refine z_iald (v := (-2) - (J 44 2)) rfl rfl (by decide) (by decide) (e83) ?_
      refine z_if_lt rfl (by omega) (fun h3 => ?_) (fun h3 => ?_)
      · refine z_iload rfl rfl ?_
        refine z_pushI (z := 0) rfl rfl ?_
        refine z_aload rfl rfl ?_
        refine z_getR (r := 84) rfl rfl (hRr _ rm_50_59 (by decide)) ?_
        refine z_iload rfl rfl ?_
        refine z_iald (v := J 44 3) rfl rfl (by decide) (by decide) (s7) ?_
        refine z_pushI (z := 1) rfl rfl ?_
        refine z_isub (e := (J 44 3) - 1) rfl rfl ?_
        refine z_callSi (As := [_, _, _]) (le := [some _, some _, some _]) rfl rfl (Nat.le_of_ble_eq_true rfl) (Nat.le_of_ble_eq_true rfl) rfl ?_
        refine z_iload rfl rfl ?_
        refine z_iload rfl rfl ?_
        refine z_icmp_ltT rfl (by omega) (by decide) (by omega) ?_
        refine z_pushI (z := 0) rfl rfl ?_
        refine z_bret rfl rfl (by decide) ?_
        show zW _ _ _ _ _ _ _ _ _ _
        refine z_if_eqT rfl (by decide) (by decide) ?_
        refine z_pushI (z := (-13)) rfl rfl ?_
        refine z_iret rfl rfl ?_
        show zW _ _ _ _ _ _ _ _ _ _
        refine z_if_geF rfl (by decide) (by decide) ?_
        refine z_pushL (z := (-9223372036854775808)) rfl rfl ?_
        refine z_goto rfl ?_
        refine z_lret rfl rfl ?_
        refine ⟨?_, ?_⟩
        · first | rfl | exact congrArg (fun v => some (zl v)) (by omega) | (exfalso; omega)
        · exact hr
      · refine z_pushI (z := (-12)) rfl rfl ?_
        refine z_iret rfl rfl ?_
        show zW _ _ _ _ _ _ _ _ _ _
        refine z_if_geF rfl (by decide) (by decide) ?_
        refine z_pushL (z := (-9223372036854775808)) rfl rfl ?_
        refine z_goto rfl ?_
        refine z_lret rfl rfl ?_
        refine ⟨?_, ?_⟩
        · first | rfl | exact congrArg (fun v => some (zl v)) (by omega) | (exfalso; omega)
        · exact hr
    · refine z_pushI (z := (-11)) rfl rfl ?_
      refine z_iret rfl rfl ?_
      show zW _ _ _ _ _ _ _ _ _ _
      refine z_if_geF rfl (by decide) (by decide) ?_
      refine z_pushL (z := (-9223372036854775808)) rfl rfl ?_
      refine z_goto rfl ?_
      refine z_lret rfl rfl ?_
      refine ⟨?_, ?_⟩
      · first | rfl | exact congrArg (fun v => some (zl v)) (by omega) | (exfalso; omega)
      · exact hr
  · refine z_iload rfl rfl ?_
    refine z_aload rfl rfl ?_
    refine z_getI (v := J 44 3) rfl rfl (rfl) ?_
    refine z_icmp_ge rfl (by omega) (by omega) (fun h2 => ?_) (fun h2 => ?_)
    · refine z_pushI (z := (-13)) rfl rfl ?_
      refine z_iret rfl rfl ?_
      show zW _ _ _ _ _ _ _ _ _ _
      refine z_if_geF rfl (by decide) (by decide) ?_
      refine z_pushL (z := (-9223372036854775808)) rfl rfl ?_
      refine z_lret rfl rfl ?_
      refine ⟨_, rfl, ?_⟩
      show zW _ _ _ _ [some (.ref 50), some (zi 3), some (zi i)] _ _ _ _ _
      refine z_aload rfl rfl ?_
      refine z_iload rfl rfl ?_
      refine z_iload rfl rfl ?_
      refine z_callVi (As := [_, _]) (le := [some _, some _, some _]) rfl rfl rfl (Nat.le_of_ble_eq_true rfl) (Nat.le_of_ble_eq_true rfl) rfl ?_
      refine z_iload rfl rfl ?_
      refine z_callSi (As := [_]) (le := [some _]) rfl rfl (Nat.le_of_ble_eq_true rfl) (Nat.le_of_ble_eq_true rfl) rfl ?_
      refine z_iload rfl rfl ?_
      refine z_pushI (z := 0) rfl rfl ?_
      refine z_pushI (z := 5) rfl rfl ?_
      refine z_callSi (As := [_, _, _]) (le := [some _, some _, some _]) rfl rfl (Nat.le_of_ble_eq_true rfl) (Nat.le_of_ble_eq_true rfl) rfl ?_
      refine z_iload rfl rfl ?_
      refine z_iload rfl rfl ?_
      refine z_icmp_ltF rfl (by decide) (by decide) (by decide) ?_
      refine z_iload rfl rfl ?_
      refine z_iload rfl rfl ?_
      refine z_icmp_gtF rfl (by decide) (by decide) (by decide) ?_
      refine z_pushI (z := 1) rfl rfl ?_
      refine z_goto rfl ?_
      refine z_bret rfl rfl (by decide) ?_
      show zW _ _ _ _ _ _ _ _ _ _
      refine z_bret rfl rfl (by decide) ?_
      show zW _ _ _ _ _ _ _ _ _ _
      refine z_if_neT rfl (by decide) (by decide) ?_
      refine z_aload rfl rfl ?_
      refine z_getR (r := 83) rfl rfl (hRr _ rm_50_58 (by decide)) ?_
      refine z_iload rfl rfl ?_
      refine z_iald (v := (-2) - (J 44 2)) rfl rfl (by decide) (by decide) (e83) ?_
      refine z_pushI (z := (-1)) rfl rfl ?_
      refine z_icmp_ne rfl (by omega) (by decide) (fun h3 => ?_) (fun h3 => ?_)
      · refine z_aload rfl rfl ?_
        refine z_getR (r := 83) rfl rfl (hRr _ rm_50_58 (by decide)) ?_
        refine z_iload rfl rfl ?_
        refine z_iald (v := (-2) - (J 44 2)) rfl rfl (by decide) (by decide) (e83) ?_
        refine z_if_lt rfl (by omega) (fun h4 => ?_) (fun h4 => ?_)
        · refine z_iload rfl rfl ?_
          refine z_pushI (z := 0) rfl rfl ?_
          refine z_aload rfl rfl ?_
          refine z_getR (r := 84) rfl rfl (hRr _ rm_50_59 (by decide)) ?_
          refine z_iload rfl rfl ?_
          refine z_iald (v := J 44 3) rfl rfl (by decide) (by decide) (s7) ?_
          refine z_pushI (z := 1) rfl rfl ?_
          refine z_isub (e := (J 44 3) - 1) rfl rfl ?_
          refine z_callSi (As := [_, _, _]) (le := [some _, some _, some _]) rfl rfl (Nat.le_of_ble_eq_true rfl) (Nat.le_of_ble_eq_true rfl) rfl ?_
          refine z_iload rfl rfl ?_
          refine z_iload rfl rfl ?_
          refine z_icmp_ltF rfl (by omega) (by decide) (by omega) ?_
          refine z_iload rfl rfl ?_
          refine z_iload rfl rfl ?_
          refine z_icmp_gtT rfl (by omega) (by omega) (by omega) ?_
          refine z_pushI (z := 0) rfl rfl ?_
          refine z_bret rfl rfl (by decide) ?_
          show zW _ _ _ _ _ _ _ _ _ _
          refine z_if_eqT rfl (by decide) (by decide) ?_
          refine z_pushI (z := (-13)) rfl rfl ?_
          refine z_iret rfl rfl ?_
          show zW _ _ _ _ _ _ _ _ _ _
          refine z_if_geF rfl (by decide) (by decide) ?_
          refine z_pushL (z := (-9223372036854775808)) rfl rfl ?_
          refine z_goto rfl ?_
          refine z_lret rfl rfl ?_
          refine ⟨?_, ?_⟩
          · first | rfl | exact congrArg (fun v => some (zl v)) (by omega) | (exfalso; omega)
          · exact hr
        · refine z_pushI (z := (-12)) rfl rfl ?_
          refine z_iret rfl rfl ?_
          show zW _ _ _ _ _ _ _ _ _ _
          refine z_if_geF rfl (by decide) (by decide) ?_
          refine z_pushL (z := (-9223372036854775808)) rfl rfl ?_
          refine z_goto rfl ?_
          refine z_lret rfl rfl ?_
          refine ⟨?_, ?_⟩
          · first | rfl | exact congrArg (fun v => some (zl v)) (by omega) | (exfalso; omega)
          · exact hr
      · refine z_pushI (z := (-11)) rfl rfl ?_
        refine z_iret rfl rfl ?_
        show zW _ _ _ _ _ _ _ _ _ _
        refine z_if_geF rfl (by decide) (by decide) ?_
        refine z_pushL (z := (-9223372036854775808)) rfl rfl ?_
        refine z_goto rfl ?_
        refine z_lret rfl rfl ?_
        refine ⟨?_, ?_⟩
        · first | rfl | exact congrArg (fun v => some (zl v)) (by omega) | (exfalso; omega)
        · exact hr
    · refine z_pushI (z := 0) rfl rfl ?_
      refine z_goto rfl ?_
      refine z_iret rfl rfl ?_
      show zW _ _ _ _ _ _ _ _ _ _
      refine z_if_geT rfl (by decide) (by decide) ?_
      refine z_aload rfl rfl ?_
      refine z_getR (r := 37) rfl rfl (hR _ rm_0_11) ?_
      refine z_iload rfl rfl ?_
      refine z_aald (r := 44) rfl rfl (by decide) (by decide) (hR _ rm_37_3) ?_
      refine z_iload rfl rfl ?_
      refine z_callVi (As := [_]) (le := [some _, some _]) rfl rfl rfl (Nat.le_of_ble_eq_true rfl) (Nat.le_of_ble_eq_true rfl) rfl ?_
      refine z_iload rfl rfl ?_
      refine z_if_ltF rfl (by omega) (by omega) ?_
      refine z_iload rfl rfl ?_
      refine z_aload rfl rfl ?_
      refine z_getI (v := J 44 3) rfl rfl (rfl) ?_
      refine z_icmp_geF rfl (by omega) (by omega) (by omega) ?_
      refine z_aload rfl rfl ?_
      refine z_getR (r := 45) rfl rfl (hR _ rm_44_4) ?_
      refine z_iload rfl rfl ?_
      refine z_lald (v := M 45 i) rfl rfl (by decide) (by omega) (rfl) ?_
      refine z_goto rfl ?_
      refine z_lret rfl rfl ?_
      show zW _ _ _ _ _ _ _ _ _ _
      refine z_lret rfl rfl ?_
      refine ⟨_, rfl, ?_⟩
      show zW _ _ _ _ [some (.ref 50), some (zi 3), some (zi i)] _ _ _ _ _
      refine z_aload rfl rfl ?_
      refine z_iload rfl rfl ?_
      refine z_iload rfl rfl ?_
      refine z_callVi (As := [_, _]) (le := [some _, some _, some _]) rfl rfl rfl (Nat.le_of_ble_eq_true rfl) (Nat.le_of_ble_eq_true rfl) rfl ?_
      refine z_iload rfl rfl ?_
      refine z_callSi (As := [_]) (le := [some _]) rfl rfl (Nat.le_of_ble_eq_true rfl) (Nat.le_of_ble_eq_true rfl) rfl ?_
      refine z_iload rfl rfl ?_
      refine z_pushI (z := 0) rfl rfl ?_
      refine z_pushI (z := 5) rfl rfl ?_
      refine z_callSi (As := [_, _, _]) (le := [some _, some _, some _]) rfl rfl (Nat.le_of_ble_eq_true rfl) (Nat.le_of_ble_eq_true rfl) rfl ?_
      refine z_iload rfl rfl ?_
      refine z_iload rfl rfl ?_
      refine z_icmp_ltF rfl (by decide) (by decide) (by decide) ?_
      refine z_iload rfl rfl ?_
      refine z_iload rfl rfl ?_
      refine z_icmp_gtF rfl (by decide) (by decide) (by decide) ?_
      refine z_pushI (z := 1) rfl rfl ?_
      refine z_goto rfl ?_
      refine z_bret rfl rfl (by decide) ?_
      show zW _ _ _ _ _ _ _ _ _ _
      refine z_bret rfl rfl (by decide) ?_
      show zW _ _ _ _ _ _ _ _ _ _
      refine z_if_neT rfl (by decide) (by decide) ?_
      refine z_aload rfl rfl ?_
      refine z_getR (r := 83) rfl rfl (hRr _ rm_50_58 (by decide)) ?_
      refine z_iload rfl rfl ?_
      refine z_iald (v := (-2) - (J 44 2)) rfl rfl (by decide) (by decide) (e83) ?_
      refine z_pushI (z := (-1)) rfl rfl ?_
      refine z_icmp_ne rfl (by omega) (by decide) (fun h3 => ?_) (fun h3 => ?_)
      · refine z_aload rfl rfl ?_
        refine z_getR (r := 83) rfl rfl (hRr _ rm_50_58 (by decide)) ?_
        refine z_iload rfl rfl ?_
        refine z_iald (v := (-2) - (J 44 2)) rfl rfl (by decide) (by decide) (e83) ?_
        refine z_if_lt rfl (by omega) (fun h4 => ?_) (fun h4 => ?_)
        · refine z_iload rfl rfl ?_
          refine z_pushI (z := 0) rfl rfl ?_
          refine z_aload rfl rfl ?_
          refine z_getR (r := 84) rfl rfl (hRr _ rm_50_59 (by decide)) ?_
          refine z_iload rfl rfl ?_
          refine z_iald (v := J 44 3) rfl rfl (by decide) (by decide) (s7) ?_
          refine z_pushI (z := 1) rfl rfl ?_
          refine z_isub (e := (J 44 3) - 1) rfl rfl ?_
          refine z_callSi (As := [_, _, _]) (le := [some _, some _, some _]) rfl rfl (Nat.le_of_ble_eq_true rfl) (Nat.le_of_ble_eq_true rfl) rfl ?_
          refine z_iload rfl rfl ?_
          refine z_iload rfl rfl ?_
          refine z_icmp_ltF rfl (by omega) (by decide) (by omega) ?_
          refine z_iload rfl rfl ?_
          refine z_iload rfl rfl ?_
          refine z_icmp_gtF rfl (by omega) (by omega) (by omega) ?_
          refine z_pushI (z := 1) rfl rfl ?_
          refine z_goto rfl ?_
          refine z_bret rfl rfl (by decide) ?_
          show zW _ _ _ _ _ _ _ _ _ _
          refine z_if_eqF rfl (by decide) (by decide) ?_
          refine z_pushI (z := 0) rfl rfl ?_
          refine z_goto rfl ?_
          refine z_iret rfl rfl ?_
          show zW _ _ _ _ _ _ _ _ _ _
          refine z_if_geT rfl (by decide) (by decide) ?_
          refine z_aload rfl rfl ?_
          refine z_getR (r := 85) rfl rfl (hRr _ rm_50_60 (by decide)) ?_
          refine z_pushI (z := 60) rfl rfl ?_
          refine z_iload rfl rfl ?_
          refine z_imul (e := 180) rfl rfl ?_
          refine z_iload rfl rfl ?_
          refine z_iadd (e := 180 + i) rfl rfl ?_
          refine z_lald (v := M 85 (180 + i)) rfl rfl (by decide) (by omega) (rfl) ?_
          refine z_lret rfl rfl ?_
          refine ⟨?_, ?_⟩
          · first | exact congrArg (fun v => some (zl v)) (s8 i (by omega) (by omega)).symm | (exfalso; omega)
          · exact hr
        · refine z_pushI (z := (-12)) rfl rfl ?_
          refine z_iret rfl rfl ?_
          show zW _ _ _ _ _ _ _ _ _ _
          refine z_if_geF rfl (by decide) (by decide) ?_
          refine z_pushL (z := (-9223372036854775808)) rfl rfl ?_
          refine z_goto rfl ?_
          refine z_lret rfl rfl ?_
          refine ⟨?_, ?_⟩
          · first | exact congrArg (fun v => some (zl v)) (s8 i (by omega) (by omega)).symm | (exfalso; omega)
          · exact hr
      · refine z_pushI (z := (-11)) rfl rfl ?_
        refine z_iret rfl rfl ?_
        show zW _ _ _ _ _ _ _ _ _ _
        refine z_if_geF rfl (by decide) (by decide) ?_
        refine z_pushL (z := (-9223372036854775808)) rfl rfl ?_
        refine z_goto rfl ?_
        refine z_lret rfl rfl ?_
        refine ⟨?_, ?_⟩
        · first | exact congrArg (fun v => some (zl v)) (s8 i (by omega) (by omega)).symm | (exfalso; omega)
        · exact hr
theorem st_put_320 {X : Nat × (Nat → Int32)} {d : Nat} {J M : zA} {R : zR} {i v : Int} (hr : Rel X J M R) (hi : -2147483648 ≤ i ∧ i < 2147483648) (hv : -9223372036854775808 ≤ v ∧ v < 9223372036854775808) (hh : J 44 0 = 2) (hso : J 44 2 = 0) : zW X (d + 20) 138 0 (gEn 138 [(.ref 0), (zi 3), (zi i), (zl v)]) [] J M R (stP X (d + 20) 252 [(zi 3), (zi i), (zl v)]) := by
  have hr0 := hr
  obtain ⟨hR, hG, hY, hD, hP, hC, hAc, hS, hTp, hX, hW⟩ := hr0
  have hRr : zRoR R := zRoR_of hR
  have e83 : J 83 3 = -2 - J 44 2 := (hS 3 (by decide) (by decide)).1.symm.trans (cH_2 hh)
  have s3 : 0 ≤ J 44 2 ∧ J 44 2 ≤ 4 := (hS 3 (by decide) (by decide)).2.2.1
  have s4 : 0 ≤ J 44 3 ∧ J 44 3 ≤ 60 := (hS 3 (by decide) (by decide)).2.2.2.1
  have s6 := (hS 3 (by decide) (by decide)).2.2.2.2.2 hh
  have s7 : J 84 3 = J 44 3 := s6.1.symm
  have s8 : ∀ i, 0 ≤ i → i < J 44 3 → M 45 i = M 85 (180 + i) := s6.2.1
  show zW _ _ _ _ [some (.ref 0), some (zi 3), some (zi i), some (zl v), none, none] _ _ _ _ _
  refine z_iload rfl rfl ?_
  refine z_callSi (As := [_]) (le := [some _]) rfl rfl (Nat.le_of_ble_eq_true rfl) (Nat.le_of_ble_eq_true rfl) rfl ?_
  refine z_iload rfl rfl ?_
  refine z_if_ltF rfl (by decide) (by decide) ?_
  refine z_iload rfl rfl ?_
  refine z_pushI (z := 6) rfl rfl ?_
  refine z_icmp_geF rfl (by decide) (by decide) (by decide) ?_
  refine z_pushI (z := 1) rfl rfl ?_
  refine z_goto rfl ?_
  refine z_bret rfl rfl (by decide) ?_
  show zW _ _ _ _ _ _ _ _ _ _
  refine z_if_neT rfl (by decide) (by decide) ?_
  refine z_aload rfl rfl ?_
  refine z_getR (r := 37) rfl rfl (hR _ rm_0_11) ?_
  refine z_iload rfl rfl ?_
  refine z_aald (r := 44) rfl rfl (by decide) (by decide) (hR _ rm_37_3) ?_
  refine z_iload rfl rfl ?_
  refine z_callVi (As := [_]) (le := [some _, some _]) rfl rfl rfl (Nat.le_of_ble_eq_true rfl) (Nat.le_of_ble_eq_true rfl) rfl ?_
  refine z_aload rfl rfl ?_
  refine z_getI (v := 2) rfl rfl (hh) ?_
  refine z_if_neT rfl (by decide) (by decide) ?_
  refine z_aload rfl rfl ?_
  refine z_getI (v := 2) rfl rfl (hh) ?_
  refine z_pushI (z := 2) rfl rfl ?_
  refine z_icmp_eqT rfl (by decide) (by decide) (by decide) ?_
  refine z_iload rfl rfl ?_
  refine z_if_lt rfl (by omega) (fun h1 => ?_) (fun h1 => ?_)
  · refine z_pushI (z := (-13)) rfl rfl ?_
    refine z_iret rfl rfl ?_
    show zW _ _ _ _ _ _ _ _ _ _
    refine z_istore rfl rfl ?_
    refine z_iload rfl rfl ?_
    refine z_if_geF rfl (by decide) (by decide) ?_
    refine z_iload rfl rfl ?_
    refine z_iret rfl rfl ?_
    refine ⟨_, rfl, ?_⟩
    show zW _ _ _ _ [some (.ref 50), some (zi 3), some (zi i), some (zl v), none, none, none] _ _ _ _ _
    refine z_aload rfl rfl ?_
    refine z_iload rfl rfl ?_
    refine z_iload rfl rfl ?_
    refine z_callVi (As := [_, _]) (le := [some _, some _, some _]) rfl rfl rfl (Nat.le_of_ble_eq_true rfl) (Nat.le_of_ble_eq_true rfl) rfl ?_
    refine z_iload rfl rfl ?_
    refine z_callSi (As := [_]) (le := [some _]) rfl rfl (Nat.le_of_ble_eq_true rfl) (Nat.le_of_ble_eq_true rfl) rfl ?_
    refine z_iload rfl rfl ?_
    refine z_pushI (z := 0) rfl rfl ?_
    refine z_pushI (z := 5) rfl rfl ?_
    refine z_callSi (As := [_, _, _]) (le := [some _, some _, some _]) rfl rfl (Nat.le_of_ble_eq_true rfl) (Nat.le_of_ble_eq_true rfl) rfl ?_
    refine z_iload rfl rfl ?_
    refine z_iload rfl rfl ?_
    refine z_icmp_ltF rfl (by decide) (by decide) (by decide) ?_
    refine z_iload rfl rfl ?_
    refine z_iload rfl rfl ?_
    refine z_icmp_gtF rfl (by decide) (by decide) (by decide) ?_
    refine z_pushI (z := 1) rfl rfl ?_
    refine z_goto rfl ?_
    refine z_bret rfl rfl (by decide) ?_
    show zW _ _ _ _ _ _ _ _ _ _
    refine z_bret rfl rfl (by decide) ?_
    show zW _ _ _ _ _ _ _ _ _ _
    refine z_if_neT rfl (by decide) (by decide) ?_
    refine z_aload rfl rfl ?_
    refine z_getR (r := 83) rfl rfl (hRr _ rm_50_58 (by decide)) ?_
    refine z_iload rfl rfl ?_
    refine z_iald (v := (-2)) rfl rfl (by decide) (by decide) ((e83.trans (by rw [hso]; rfl))) ?_
    refine z_pushI (z := (-1)) rfl rfl ?_
    refine z_icmp_neT rfl (by decide) (by decide) (by decide) ?_
    refine z_aload rfl rfl ?_
    refine z_getR (r := 83) rfl rfl (hRr _ rm_50_58 (by decide)) ?_
    refine z_iload rfl rfl ?_
    refine z_iald (v := (-2)) rfl rfl (by decide) (by decide) ((e83.trans (by rw [hso]; rfl))) ?_
    refine z_if_ltT rfl (by decide) (by decide) ?_
    refine z_iload rfl rfl ?_
    refine z_pushI (z := 0) rfl rfl ?_
    refine z_aload rfl rfl ?_
    refine z_getR (r := 84) rfl rfl (hRr _ rm_50_59 (by decide)) ?_
    refine z_iload rfl rfl ?_
    refine z_iald (v := J 44 3) rfl rfl (by decide) (by decide) (s7) ?_
    refine z_pushI (z := 1) rfl rfl ?_
    refine z_isub (e := (J 44 3) - 1) rfl rfl ?_
    refine z_callSi (As := [_, _, _]) (le := [some _, some _, some _]) rfl rfl (Nat.le_of_ble_eq_true rfl) (Nat.le_of_ble_eq_true rfl) rfl ?_
    refine z_iload rfl rfl ?_
    refine z_iload rfl rfl ?_
    refine z_icmp_ltT rfl (by omega) (by decide) (by omega) ?_
    refine z_pushI (z := 0) rfl rfl ?_
    refine z_bret rfl rfl (by decide) ?_
    show zW _ _ _ _ _ _ _ _ _ _
    refine z_if_eqT rfl (by decide) (by decide) ?_
    refine z_pushI (z := (-13)) rfl rfl ?_
    refine z_iret rfl rfl ?_
    show zW _ _ _ _ _ _ _ _ _ _
    refine z_istore rfl rfl ?_
    refine z_iload rfl rfl ?_
    refine z_if_geF rfl (by decide) (by decide) ?_
    refine z_iload rfl rfl ?_
    refine z_iret rfl rfl ?_
    refine ⟨?_, ?_⟩
    · first | rfl | exact congrArg (fun v => some (zi v)) (by omega) | (exfalso; omega)
    · exact hr
  · refine z_iload rfl rfl ?_
    refine z_aload rfl rfl ?_
    refine z_getI (v := J 44 3) rfl rfl (rfl) ?_
    refine z_icmp_ge rfl (by omega) (by omega) (fun h2 => ?_) (fun h2 => ?_)
    · refine z_pushI (z := (-13)) rfl rfl ?_
      refine z_iret rfl rfl ?_
      show zW _ _ _ _ _ _ _ _ _ _
      refine z_istore rfl rfl ?_
      refine z_iload rfl rfl ?_
      refine z_if_geF rfl (by decide) (by decide) ?_
      refine z_iload rfl rfl ?_
      refine z_iret rfl rfl ?_
      refine ⟨_, rfl, ?_⟩
      show zW _ _ _ _ [some (.ref 50), some (zi 3), some (zi i), some (zl v), none, none, none] _ _ _ _ _
      refine z_aload rfl rfl ?_
      refine z_iload rfl rfl ?_
      refine z_iload rfl rfl ?_
      refine z_callVi (As := [_, _]) (le := [some _, some _, some _]) rfl rfl rfl (Nat.le_of_ble_eq_true rfl) (Nat.le_of_ble_eq_true rfl) rfl ?_
      refine z_iload rfl rfl ?_
      refine z_callSi (As := [_]) (le := [some _]) rfl rfl (Nat.le_of_ble_eq_true rfl) (Nat.le_of_ble_eq_true rfl) rfl ?_
      refine z_iload rfl rfl ?_
      refine z_pushI (z := 0) rfl rfl ?_
      refine z_pushI (z := 5) rfl rfl ?_
      refine z_callSi (As := [_, _, _]) (le := [some _, some _, some _]) rfl rfl (Nat.le_of_ble_eq_true rfl) (Nat.le_of_ble_eq_true rfl) rfl ?_
      refine z_iload rfl rfl ?_
      refine z_iload rfl rfl ?_
      refine z_icmp_ltF rfl (by decide) (by decide) (by decide) ?_
      refine z_iload rfl rfl ?_
      refine z_iload rfl rfl ?_
      refine z_icmp_gtF rfl (by decide) (by decide) (by decide) ?_
      refine z_pushI (z := 1) rfl rfl ?_
      refine z_goto rfl ?_
      refine z_bret rfl rfl (by decide) ?_
      show zW _ _ _ _ _ _ _ _ _ _
      refine z_bret rfl rfl (by decide) ?_
      show zW _ _ _ _ _ _ _ _ _ _
      refine z_if_neT rfl (by decide) (by decide) ?_
      refine z_aload rfl rfl ?_
      refine z_getR (r := 83) rfl rfl (hRr _ rm_50_58 (by decide)) ?_
      refine z_iload rfl rfl ?_
      refine z_iald (v := (-2)) rfl rfl (by decide) (by decide) ((e83.trans (by rw [hso]; rfl))) ?_
      refine z_pushI (z := (-1)) rfl rfl ?_
      refine z_icmp_neT rfl (by decide) (by decide) (by decide) ?_
      refine z_aload rfl rfl ?_
      refine z_getR (r := 83) rfl rfl (hRr _ rm_50_58 (by decide)) ?_
      refine z_iload rfl rfl ?_
      refine z_iald (v := (-2)) rfl rfl (by decide) (by decide) ((e83.trans (by rw [hso]; rfl))) ?_
      refine z_if_ltT rfl (by decide) (by decide) ?_
      refine z_iload rfl rfl ?_
      refine z_pushI (z := 0) rfl rfl ?_
      refine z_aload rfl rfl ?_
      refine z_getR (r := 84) rfl rfl (hRr _ rm_50_59 (by decide)) ?_
      refine z_iload rfl rfl ?_
      refine z_iald (v := J 44 3) rfl rfl (by decide) (by decide) (s7) ?_
      refine z_pushI (z := 1) rfl rfl ?_
      refine z_isub (e := (J 44 3) - 1) rfl rfl ?_
      refine z_callSi (As := [_, _, _]) (le := [some _, some _, some _]) rfl rfl (Nat.le_of_ble_eq_true rfl) (Nat.le_of_ble_eq_true rfl) rfl ?_
      refine z_iload rfl rfl ?_
      refine z_iload rfl rfl ?_
      refine z_icmp_ltF rfl (by omega) (by decide) (by omega) ?_
      refine z_iload rfl rfl ?_
      refine z_iload rfl rfl ?_
      refine z_icmp_gtT rfl (by omega) (by omega) (by omega) ?_
      refine z_pushI (z := 0) rfl rfl ?_
      refine z_bret rfl rfl (by decide) ?_
      show zW _ _ _ _ _ _ _ _ _ _
      refine z_if_eqT rfl (by decide) (by decide) ?_
      refine z_pushI (z := (-13)) rfl rfl ?_
      refine z_iret rfl rfl ?_
      show zW _ _ _ _ _ _ _ _ _ _
      refine z_istore rfl rfl ?_
      refine z_iload rfl rfl ?_
      refine z_if_geF rfl (by decide) (by decide) ?_
      refine z_iload rfl rfl ?_
      refine z_iret rfl rfl ?_
      refine ⟨?_, ?_⟩
      · first | rfl | exact congrArg (fun v => some (zi v)) (by omega) | (exfalso; omega)
      · exact hr
    · refine z_pushI (z := 0) rfl rfl ?_
      refine z_goto rfl ?_
      refine z_iret rfl rfl ?_
      show zW _ _ _ _ _ _ _ _ _ _
      refine z_istore rfl rfl ?_
      refine z_iload rfl rfl ?_
      refine z_if_geT rfl (by decide) (by decide) ?_
      refine z_aload rfl rfl ?_
      refine z_getR (r := 37) rfl rfl (hR _ rm_0_11) ?_
      refine z_iload rfl rfl ?_
      refine z_aald (r := 44) rfl rfl (by decide) (by decide) (hR _ rm_37_3) ?_
      refine z_iload rfl rfl ?_
      refine z_lload rfl rfl ?_
      refine z_callVi (As := [_, _]) (le := [some _, some _, some _, none]) rfl rfl rfl (Nat.le_of_ble_eq_true rfl) (Nat.le_of_ble_eq_true rfl) rfl ?_
      refine z_iload rfl rfl ?_
      refine z_if_ltF rfl (by omega) (by omega) ?_
      refine z_iload rfl rfl ?_
      refine z_aload rfl rfl ?_
      refine z_getI (v := J 44 3) rfl rfl (rfl) ?_
      refine z_icmp_geF rfl (by omega) (by omega) (by omega) ?_
      refine z_aload rfl rfl ?_
      refine z_getR (r := 45) rfl rfl (hR _ rm_44_4) ?_
      refine z_iload rfl rfl ?_
      refine z_aload rfl rfl ?_
      refine z_lload rfl rfl ?_
      refine z_callVi (As := [_]) (le := [some _, some _, none]) rfl rfl rfl (Nat.le_of_ble_eq_true rfl) (Nat.le_of_ble_eq_true rfl) rfl ?_
      refine z_aload rfl rfl ?_
      refine z_getI (v := 0) rfl rfl (hso) ?_
      refine z_swI (tg := 40) rfl (by decide) (T := [((0 : Int), 40), ((1 : Int), 45), ((2 : Int), 50), ((3 : Int), 66), ((4 : Int), 54)]) rfl (by decide) ?_
      refine z_lload rfl rfl ?_
      refine z_l2i rfl ?_
      refine z_i2b (e := zb v) rfl rfl ?_
      have q3 := zb_r v
      refine z_i2l rfl (by omega) ?_
      refine z_lret rfl rfl ?_
      show zW _ _ _ _ _ _ _ _ _ _
      refine z_last (e := zb v) rfl rfl (by decide) (by omega) rfl ?_
      refine z_vret rfl rfl ?_
      show zW _ _ _ _ _ _ _ _ _ _
      refine z_pushI (z := 1) rfl rfl ?_
      refine z_iret rfl rfl ?_
      refine ⟨_, rfl, ?_⟩
      show zW _ _ _ _ [some (.ref 50), some (zi 3), some (zi i), some (zl v), none, none, none] _ _ _ _ _
      refine z_aload rfl rfl ?_
      refine z_iload rfl rfl ?_
      refine z_iload rfl rfl ?_
      refine z_callVi (As := [_, _]) (le := [some _, some _, some _]) rfl rfl rfl (Nat.le_of_ble_eq_true rfl) (Nat.le_of_ble_eq_true rfl) rfl ?_
      refine z_iload rfl rfl ?_
      refine z_callSi (As := [_]) (le := [some _]) rfl rfl (Nat.le_of_ble_eq_true rfl) (Nat.le_of_ble_eq_true rfl) rfl ?_
      refine z_iload rfl rfl ?_
      refine z_pushI (z := 0) rfl rfl ?_
      refine z_pushI (z := 5) rfl rfl ?_
      refine z_callSi (As := [_, _, _]) (le := [some _, some _, some _]) rfl rfl (Nat.le_of_ble_eq_true rfl) (Nat.le_of_ble_eq_true rfl) rfl ?_
      refine z_iload rfl rfl ?_
      refine z_iload rfl rfl ?_
      refine z_icmp_ltF rfl (by decide) (by decide) (by decide) ?_
      refine z_iload rfl rfl ?_
      refine z_iload rfl rfl ?_
      refine z_icmp_gtF rfl (by decide) (by decide) (by decide) ?_
      refine z_pushI (z := 1) rfl rfl ?_
      refine z_goto rfl ?_
      refine z_bret rfl rfl (by decide) ?_
      show zW _ _ _ _ _ _ _ _ _ _
      refine z_bret rfl rfl (by decide) ?_
      show zW _ _ _ _ _ _ _ _ _ _
      refine z_if_neT rfl (by decide) (by decide) ?_
      refine z_aload rfl rfl ?_
      refine z_getR (r := 83) rfl rfl (hRr _ rm_50_58 (by decide)) ?_
      refine z_iload rfl rfl ?_
      refine z_iald (v := (-2)) rfl rfl (by decide) (by decide) ((e83.trans (by rw [hso]; rfl))) ?_
      refine z_pushI (z := (-1)) rfl rfl ?_
      refine z_icmp_neT rfl (by decide) (by decide) (by decide) ?_
      refine z_aload rfl rfl ?_
      refine z_getR (r := 83) rfl rfl (hRr _ rm_50_58 (by decide)) ?_
      refine z_iload rfl rfl ?_
      refine z_iald (v := (-2)) rfl rfl (by decide) (by decide) ((e83.trans (by rw [hso]; rfl))) ?_
      refine z_if_ltT rfl (by decide) (by decide) ?_
      refine z_iload rfl rfl ?_
      refine z_pushI (z := 0) rfl rfl ?_
      refine z_aload rfl rfl ?_
      refine z_getR (r := 84) rfl rfl (hRr _ rm_50_59 (by decide)) ?_
      refine z_iload rfl rfl ?_
      refine z_iald (v := J 44 3) rfl rfl (by decide) (by decide) (s7) ?_
      refine z_pushI (z := 1) rfl rfl ?_
      refine z_isub (e := (J 44 3) - 1) rfl rfl ?_
      refine z_callSi (As := [_, _, _]) (le := [some _, some _, some _]) rfl rfl (Nat.le_of_ble_eq_true rfl) (Nat.le_of_ble_eq_true rfl) rfl ?_
      refine z_iload rfl rfl ?_
      refine z_iload rfl rfl ?_
      refine z_icmp_ltF rfl (by omega) (by decide) (by omega) ?_
      refine z_iload rfl rfl ?_
      refine z_iload rfl rfl ?_
      refine z_icmp_gtF rfl (by omega) (by omega) (by omega) ?_
      refine z_pushI (z := 1) rfl rfl ?_
      refine z_goto rfl ?_
      refine z_bret rfl rfl (by decide) ?_
      show zW _ _ _ _ _ _ _ _ _ _
      refine z_if_eqF rfl (by decide) (by decide) ?_
      refine z_pushI (z := 0) rfl rfl ?_
      refine z_goto rfl ?_
      refine z_iret rfl rfl ?_
      show zW _ _ _ _ _ _ _ _ _ _
      refine z_istore rfl rfl ?_
      refine z_iload rfl rfl ?_
      refine z_if_geT rfl (by decide) (by decide) ?_
      refine z_pushI (z := (-2)) rfl rfl ?_
      refine z_aload rfl rfl ?_
      refine z_getR (r := 83) rfl rfl (hRr _ rm_50_58 (by decide)) ?_
      refine z_iload rfl rfl ?_
      refine z_iald (v := (-2)) rfl rfl (by decide) (by decide) ((e83.trans (by rw [hso]; rfl))) ?_
      refine z_isub (e := 0) rfl rfl ?_
      refine z_istore rfl rfl ?_
      refine z_aload rfl rfl ?_
      refine z_getR (r := 85) rfl rfl (hRr _ rm_50_60 (by decide)) ?_
      refine z_pushI (z := 60) rfl rfl ?_
      refine z_iload rfl rfl ?_
      refine z_imul (e := 180) rfl rfl ?_
      refine z_iload rfl rfl ?_
      refine z_iadd (e := 180 + i) rfl rfl ?_
      refine z_iload rfl rfl ?_
      refine z_if_neF rfl (by decide) (by decide) ?_
      refine z_lload rfl rfl ?_
      refine z_l2i rfl ?_
      refine z_i2b (e := zb v) rfl rfl ?_
      have q4 := zb_r v
      refine z_i2l rfl (by omega) ?_
      refine z_goto rfl ?_
      refine z_last (e := zb v) rfl rfl (by decide) (by omega) rfl ?_
      refine z_pushI (z := 1) rfl rfl ?_
      refine z_iret rfl rfl ?_
      refine ⟨?_, ?_⟩
      · first | rfl | exact congrArg (fun v => some (zi v)) (by omega) | (exfalso; omega)
      · have hk := (zK_r (k := (kL [] [])) (A := J))
        have hkm := (zK_x (a := 85) (x := 180 + i) (v := zb v) (zK_x (a := 45) (x := i) (v := zb v) (zK_r (k := (kL [45, 85] [])) (A := M)) rfl) rfl)
        exact ⟨hR, hG, RelY_k hk (by repeat' constructor) (fun p => by repeat' constructor) hY, RelD_k hk (by repeat' constructor) (fun p => by repeat' constructor) hD, RelP_k hk (by repeat' constructor) (fun p => by repeat' constructor) hP, RelC_k hk (by repeat' constructor) (fun p => by repeat' constructor) hC, RelA_k hk (by repeat' constructor) (fun p => by repeat' constructor) hAc, (RelS_one (J := J) (M := M) (c := 3) (fun t t1 t2 te => by have q : t = 0 ∨ t = 1 ∨ t = 2 ∨ t = 3 ∨ t = 4 ∨ t = 5 := (by omega); rcases q with rfl | rfl | rfl | rfl | rfl | rfl <;> first | exact absurd rfl te | exact ⟨fun j => rfl, rfl, rfl⟩) (fun t t1 t2 te => by have q : t = 0 ∨ t = 1 ∨ t = 2 ∨ t = 3 ∨ t = 4 ∨ t = 5 := (by omega); rcases q with rfl | rfl | rfl | rfl | rfl | rfl <;> first | exact absurd rfl te | exact ⟨fun j => rfl, fun j j1 j2 => (zU_x (by omega)).trans (zU_n (by decide))⟩) rfl (show RelS1 _ _ _ from ⟨(hS 3 (by decide) (by decide)).1, (hS 3 (by decide) (by decide)).2.1, s3, s4, (hS 3 (by decide) (by decide)).2.2.2.2.1, fun _ => ⟨s7.symm, fun k k1 k2 => by show (if k = i then zb v else M 45 k) = (if 180 + k = 180 + i then zb v else M 85 (180 + k)); by_cases e : k = i; rw [if_pos e, if_pos (by omega)]; rw [if_neg e, if_neg (by omega)]; exact s8 k k1 k2, (fun hq k k1 k2 => by show -128 ≤ (if k = i then zb v else M 45 k) ∧ (if k = i then zb v else M 45 k) ≤ 127; split <;> first | (have := zb_r v; omega) | exact s6.2.2 hq k k1 k2)⟩⟩) hS), RelT_k hk (by repeat' constructor) (fun p => by repeat' constructor) hTp, RelX_k hk (by repeat' constructor) (fun p => by repeat' constructor) hX, RelW_k hk ⟨rfl, rfl⟩ trivial hW⟩
theorem st_put_321 {X : Nat × (Nat → Int32)} {d : Nat} {J M : zA} {R : zR} {i v : Int} (hr : Rel X J M R) (hi : -2147483648 ≤ i ∧ i < 2147483648) (hv : -9223372036854775808 ≤ v ∧ v < 9223372036854775808) (hh : J 44 0 = 2) (hso : J 44 2 = 1) : zW X (d + 20) 138 0 (gEn 138 [(.ref 0), (zi 3), (zi i), (zl v)]) [] J M R (stP X (d + 20) 252 [(zi 3), (zi i), (zl v)]) := by
  have hr0 := hr
  obtain ⟨hR, hG, hY, hD, hP, hC, hAc, hS, hTp, hX, hW⟩ := hr0
  have hRr : zRoR R := zRoR_of hR
  have e83 : J 83 3 = -2 - J 44 2 := (hS 3 (by decide) (by decide)).1.symm.trans (cH_2 hh)
  have s3 : 0 ≤ J 44 2 ∧ J 44 2 ≤ 4 := (hS 3 (by decide) (by decide)).2.2.1
  have s4 : 0 ≤ J 44 3 ∧ J 44 3 ≤ 60 := (hS 3 (by decide) (by decide)).2.2.2.1
  have s6 := (hS 3 (by decide) (by decide)).2.2.2.2.2 hh
  have s7 : J 84 3 = J 44 3 := s6.1.symm
  have s8 : ∀ i, 0 ≤ i → i < J 44 3 → M 45 i = M 85 (180 + i) := s6.2.1
  show zW _ _ _ _ [some (.ref 0), some (zi 3), some (zi i), some (zl v), none, none] _ _ _ _ _
  refine z_iload rfl rfl ?_
  refine z_callSi (As := [_]) (le := [some _]) rfl rfl (Nat.le_of_ble_eq_true rfl) (Nat.le_of_ble_eq_true rfl) rfl ?_
  refine z_iload rfl rfl ?_
  refine z_if_ltF rfl (by decide) (by decide) ?_
  refine z_iload rfl rfl ?_
  refine z_pushI (z := 6) rfl rfl ?_
  refine z_icmp_geF rfl (by decide) (by decide) (by decide) ?_
  refine z_pushI (z := 1) rfl rfl ?_
  refine z_goto rfl ?_
  refine z_bret rfl rfl (by decide) ?_
  show zW _ _ _ _ _ _ _ _ _ _
  refine z_if_neT rfl (by decide) (by decide) ?_
  refine z_aload rfl rfl ?_
  refine z_getR (r := 37) rfl rfl (hR _ rm_0_11) ?_
  refine z_iload rfl rfl ?_
  refine z_aald (r := 44) rfl rfl (by decide) (by decide) (hR _ rm_37_3) ?_
  refine z_iload rfl rfl ?_
  refine z_callVi (As := [_]) (le := [some _, some _]) rfl rfl rfl (Nat.le_of_ble_eq_true rfl) (Nat.le_of_ble_eq_true rfl) rfl ?_
  refine z_aload rfl rfl ?_
  refine z_getI (v := 2) rfl rfl (hh) ?_
  refine z_if_neT rfl (by decide) (by decide) ?_
  refine z_aload rfl rfl ?_
  refine z_getI (v := 2) rfl rfl (hh) ?_
  refine z_pushI (z := 2) rfl rfl ?_
  refine z_icmp_eqT rfl (by decide) (by decide) (by decide) ?_
  refine z_iload rfl rfl ?_
  refine z_if_lt rfl (by omega) (fun h1 => ?_) (fun h1 => ?_)
  · refine z_pushI (z := (-13)) rfl rfl ?_
    refine z_iret rfl rfl ?_
    show zW _ _ _ _ _ _ _ _ _ _
    refine z_istore rfl rfl ?_
    refine z_iload rfl rfl ?_
    refine z_if_geF rfl (by decide) (by decide) ?_
    refine z_iload rfl rfl ?_
    refine z_iret rfl rfl ?_
    refine ⟨_, rfl, ?_⟩
    show zW _ _ _ _ [some (.ref 50), some (zi 3), some (zi i), some (zl v), none, none, none] _ _ _ _ _
    refine z_aload rfl rfl ?_
    refine z_iload rfl rfl ?_
    refine z_iload rfl rfl ?_
    refine z_callVi (As := [_, _]) (le := [some _, some _, some _]) rfl rfl rfl (Nat.le_of_ble_eq_true rfl) (Nat.le_of_ble_eq_true rfl) rfl ?_
    refine z_iload rfl rfl ?_
    refine z_callSi (As := [_]) (le := [some _]) rfl rfl (Nat.le_of_ble_eq_true rfl) (Nat.le_of_ble_eq_true rfl) rfl ?_
    refine z_iload rfl rfl ?_
    refine z_pushI (z := 0) rfl rfl ?_
    refine z_pushI (z := 5) rfl rfl ?_
    refine z_callSi (As := [_, _, _]) (le := [some _, some _, some _]) rfl rfl (Nat.le_of_ble_eq_true rfl) (Nat.le_of_ble_eq_true rfl) rfl ?_
    refine z_iload rfl rfl ?_
    refine z_iload rfl rfl ?_
    refine z_icmp_ltF rfl (by decide) (by decide) (by decide) ?_
    refine z_iload rfl rfl ?_
    refine z_iload rfl rfl ?_
    refine z_icmp_gtF rfl (by decide) (by decide) (by decide) ?_
    refine z_pushI (z := 1) rfl rfl ?_
    refine z_goto rfl ?_
    refine z_bret rfl rfl (by decide) ?_
    show zW _ _ _ _ _ _ _ _ _ _
    refine z_bret rfl rfl (by decide) ?_
    show zW _ _ _ _ _ _ _ _ _ _
    refine z_if_neT rfl (by decide) (by decide) ?_
    refine z_aload rfl rfl ?_
    refine z_getR (r := 83) rfl rfl (hRr _ rm_50_58 (by decide)) ?_
    refine z_iload rfl rfl ?_
    refine z_iald (v := (-3)) rfl rfl (by decide) (by decide) ((e83.trans (by rw [hso]; rfl))) ?_
    refine z_pushI (z := (-1)) rfl rfl ?_
    refine z_icmp_neT rfl (by decide) (by decide) (by decide) ?_
    refine z_aload rfl rfl ?_
    refine z_getR (r := 83) rfl rfl (hRr _ rm_50_58 (by decide)) ?_
    refine z_iload rfl rfl ?_
    refine z_iald (v := (-3)) rfl rfl (by decide) (by decide) ((e83.trans (by rw [hso]; rfl))) ?_
    refine z_if_ltT rfl (by decide) (by decide) ?_
    refine z_iload rfl rfl ?_
    refine z_pushI (z := 0) rfl rfl ?_
    refine z_aload rfl rfl ?_
    refine z_getR (r := 84) rfl rfl (hRr _ rm_50_59 (by decide)) ?_
    refine z_iload rfl rfl ?_
    refine z_iald (v := J 44 3) rfl rfl (by decide) (by decide) (s7) ?_
    refine z_pushI (z := 1) rfl rfl ?_
    refine z_isub (e := (J 44 3) - 1) rfl rfl ?_
    refine z_callSi (As := [_, _, _]) (le := [some _, some _, some _]) rfl rfl (Nat.le_of_ble_eq_true rfl) (Nat.le_of_ble_eq_true rfl) rfl ?_
    refine z_iload rfl rfl ?_
    refine z_iload rfl rfl ?_
    refine z_icmp_ltT rfl (by omega) (by decide) (by omega) ?_
    refine z_pushI (z := 0) rfl rfl ?_
    refine z_bret rfl rfl (by decide) ?_
    show zW _ _ _ _ _ _ _ _ _ _
    refine z_if_eqT rfl (by decide) (by decide) ?_
    refine z_pushI (z := (-13)) rfl rfl ?_
    refine z_iret rfl rfl ?_
    show zW _ _ _ _ _ _ _ _ _ _
    refine z_istore rfl rfl ?_
    refine z_iload rfl rfl ?_
    refine z_if_geF rfl (by decide) (by decide) ?_
    refine z_iload rfl rfl ?_
    refine z_iret rfl rfl ?_
    refine ⟨?_, ?_⟩
    · first | rfl | exact congrArg (fun v => some (zi v)) (by omega) | (exfalso; omega)
    · exact hr
  · refine z_iload rfl rfl ?_
    refine z_aload rfl rfl ?_
    refine z_getI (v := J 44 3) rfl rfl (rfl) ?_
    refine z_icmp_ge rfl (by omega) (by omega) (fun h2 => ?_) (fun h2 => ?_)
    · refine z_pushI (z := (-13)) rfl rfl ?_
      refine z_iret rfl rfl ?_
      show zW _ _ _ _ _ _ _ _ _ _
      refine z_istore rfl rfl ?_
      refine z_iload rfl rfl ?_
      refine z_if_geF rfl (by decide) (by decide) ?_
      refine z_iload rfl rfl ?_
      refine z_iret rfl rfl ?_
      refine ⟨_, rfl, ?_⟩
      show zW _ _ _ _ [some (.ref 50), some (zi 3), some (zi i), some (zl v), none, none, none] _ _ _ _ _
      refine z_aload rfl rfl ?_
      refine z_iload rfl rfl ?_
      refine z_iload rfl rfl ?_
      refine z_callVi (As := [_, _]) (le := [some _, some _, some _]) rfl rfl rfl (Nat.le_of_ble_eq_true rfl) (Nat.le_of_ble_eq_true rfl) rfl ?_
      refine z_iload rfl rfl ?_
      refine z_callSi (As := [_]) (le := [some _]) rfl rfl (Nat.le_of_ble_eq_true rfl) (Nat.le_of_ble_eq_true rfl) rfl ?_
      refine z_iload rfl rfl ?_
      refine z_pushI (z := 0) rfl rfl ?_
      refine z_pushI (z := 5) rfl rfl ?_
      refine z_callSi (As := [_, _, _]) (le := [some _, some _, some _]) rfl rfl (Nat.le_of_ble_eq_true rfl) (Nat.le_of_ble_eq_true rfl) rfl ?_
      refine z_iload rfl rfl ?_
      refine z_iload rfl rfl ?_
      refine z_icmp_ltF rfl (by decide) (by decide) (by decide) ?_
      refine z_iload rfl rfl ?_
      refine z_iload rfl rfl ?_
      refine z_icmp_gtF rfl (by decide) (by decide) (by decide) ?_
      refine z_pushI (z := 1) rfl rfl ?_
      refine z_goto rfl ?_
      refine z_bret rfl rfl (by decide) ?_
      show zW _ _ _ _ _ _ _ _ _ _
      refine z_bret rfl rfl (by decide) ?_
      show zW _ _ _ _ _ _ _ _ _ _
      refine z_if_neT rfl (by decide) (by decide) ?_
      refine z_aload rfl rfl ?_
      refine z_getR (r := 83) rfl rfl (hRr _ rm_50_58 (by decide)) ?_
      refine z_iload rfl rfl ?_
      refine z_iald (v := (-3)) rfl rfl (by decide) (by decide) ((e83.trans (by rw [hso]; rfl))) ?_
      refine z_pushI (z := (-1)) rfl rfl ?_
      refine z_icmp_neT rfl (by decide) (by decide) (by decide) ?_
      refine z_aload rfl rfl ?_
      refine z_getR (r := 83) rfl rfl (hRr _ rm_50_58 (by decide)) ?_
      refine z_iload rfl rfl ?_
      refine z_iald (v := (-3)) rfl rfl (by decide) (by decide) ((e83.trans (by rw [hso]; rfl))) ?_
      refine z_if_ltT rfl (by decide) (by decide) ?_
      refine z_iload rfl rfl ?_
      refine z_pushI (z := 0) rfl rfl ?_
      refine z_aload rfl rfl ?_
      refine z_getR (r := 84) rfl rfl (hRr _ rm_50_59 (by decide)) ?_
      refine z_iload rfl rfl ?_
      refine z_iald (v := J 44 3) rfl rfl (by decide) (by decide) (s7) ?_
      refine z_pushI (z := 1) rfl rfl ?_
      refine z_isub (e := (J 44 3) - 1) rfl rfl ?_
      refine z_callSi (As := [_, _, _]) (le := [some _, some _, some _]) rfl rfl (Nat.le_of_ble_eq_true rfl) (Nat.le_of_ble_eq_true rfl) rfl ?_
      refine z_iload rfl rfl ?_
      refine z_iload rfl rfl ?_
      refine z_icmp_ltF rfl (by omega) (by decide) (by omega) ?_
      refine z_iload rfl rfl ?_
      refine z_iload rfl rfl ?_
      refine z_icmp_gtT rfl (by omega) (by omega) (by omega) ?_
      refine z_pushI (z := 0) rfl rfl ?_
      refine z_bret rfl rfl (by decide) ?_
      show zW _ _ _ _ _ _ _ _ _ _
      refine z_if_eqT rfl (by decide) (by decide) ?_
      refine z_pushI (z := (-13)) rfl rfl ?_
      refine z_iret rfl rfl ?_
      show zW _ _ _ _ _ _ _ _ _ _
      refine z_istore rfl rfl ?_
      refine z_iload rfl rfl ?_
      refine z_if_geF rfl (by decide) (by decide) ?_
      refine z_iload rfl rfl ?_
      refine z_iret rfl rfl ?_
      refine ⟨?_, ?_⟩
      · first | rfl | exact congrArg (fun v => some (zi v)) (by omega) | (exfalso; omega)
      · exact hr
    · refine z_pushI (z := 0) rfl rfl ?_
      refine z_goto rfl ?_
      refine z_iret rfl rfl ?_
      show zW _ _ _ _ _ _ _ _ _ _
      refine z_istore rfl rfl ?_
      refine z_iload rfl rfl ?_
      refine z_if_geT rfl (by decide) (by decide) ?_
      refine z_aload rfl rfl ?_
      refine z_getR (r := 37) rfl rfl (hR _ rm_0_11) ?_
      refine z_iload rfl rfl ?_
      refine z_aald (r := 44) rfl rfl (by decide) (by decide) (hR _ rm_37_3) ?_
      refine z_iload rfl rfl ?_
      refine z_lload rfl rfl ?_
      refine z_callVi (As := [_, _]) (le := [some _, some _, some _, none]) rfl rfl rfl (Nat.le_of_ble_eq_true rfl) (Nat.le_of_ble_eq_true rfl) rfl ?_
      refine z_iload rfl rfl ?_
      refine z_if_ltF rfl (by omega) (by omega) ?_
      refine z_iload rfl rfl ?_
      refine z_aload rfl rfl ?_
      refine z_getI (v := J 44 3) rfl rfl (rfl) ?_
      refine z_icmp_geF rfl (by omega) (by omega) (by omega) ?_
      refine z_aload rfl rfl ?_
      refine z_getR (r := 45) rfl rfl (hR _ rm_44_4) ?_
      refine z_iload rfl rfl ?_
      refine z_aload rfl rfl ?_
      refine z_lload rfl rfl ?_
      refine z_callVi (As := [_]) (le := [some _, some _, none]) rfl rfl rfl (Nat.le_of_ble_eq_true rfl) (Nat.le_of_ble_eq_true rfl) rfl ?_
      refine z_aload rfl rfl ?_
      refine z_getI (v := 1) rfl rfl (hso) ?_
      refine z_swI (tg := 45) rfl (by decide) (T := [((0 : Int), 40), ((1 : Int), 45), ((2 : Int), 50), ((3 : Int), 66), ((4 : Int), 54)]) rfl (by decide) ?_
      refine z_lload rfl rfl ?_
      refine z_l2i rfl ?_
      refine z_i2s (e := zh v) rfl rfl ?_
      have q3 := zh_r v
      refine z_i2l rfl (by omega) ?_
      refine z_lret rfl rfl ?_
      show zW _ _ _ _ _ _ _ _ _ _
      refine z_last (e := zh v) rfl rfl (by decide) (by omega) rfl ?_
      refine z_vret rfl rfl ?_
      show zW _ _ _ _ _ _ _ _ _ _
      refine z_pushI (z := 1) rfl rfl ?_
      refine z_iret rfl rfl ?_
      refine ⟨_, rfl, ?_⟩
      show zW _ _ _ _ [some (.ref 50), some (zi 3), some (zi i), some (zl v), none, none, none] _ _ _ _ _
      refine z_aload rfl rfl ?_
      refine z_iload rfl rfl ?_
      refine z_iload rfl rfl ?_
      refine z_callVi (As := [_, _]) (le := [some _, some _, some _]) rfl rfl rfl (Nat.le_of_ble_eq_true rfl) (Nat.le_of_ble_eq_true rfl) rfl ?_
      refine z_iload rfl rfl ?_
      refine z_callSi (As := [_]) (le := [some _]) rfl rfl (Nat.le_of_ble_eq_true rfl) (Nat.le_of_ble_eq_true rfl) rfl ?_
      refine z_iload rfl rfl ?_
      refine z_pushI (z := 0) rfl rfl ?_
      refine z_pushI (z := 5) rfl rfl ?_
      refine z_callSi (As := [_, _, _]) (le := [some _, some _, some _]) rfl rfl (Nat.le_of_ble_eq_true rfl) (Nat.le_of_ble_eq_true rfl) rfl ?_
      refine z_iload rfl rfl ?_
      refine z_iload rfl rfl ?_
      refine z_icmp_ltF rfl (by decide) (by decide) (by decide) ?_
      refine z_iload rfl rfl ?_
      refine z_iload rfl rfl ?_
      refine z_icmp_gtF rfl (by decide) (by decide) (by decide) ?_
      refine z_pushI (z := 1) rfl rfl ?_
      refine z_goto rfl ?_
      refine z_bret rfl rfl (by decide) ?_
      show zW _ _ _ _ _ _ _ _ _ _
      refine z_bret rfl rfl (by decide) ?_
      show zW _ _ _ _ _ _ _ _ _ _
      refine z_if_neT rfl (by decide) (by decide) ?_
      refine z_aload rfl rfl ?_
      refine z_getR (r := 83) rfl rfl (hRr _ rm_50_58 (by decide)) ?_
      refine z_iload rfl rfl ?_
      refine z_iald (v := (-3)) rfl rfl (by decide) (by decide) ((e83.trans (by rw [hso]; rfl))) ?_
      refine z_pushI (z := (-1)) rfl rfl ?_
      refine z_icmp_neT rfl (by decide) (by decide) (by decide) ?_
      refine z_aload rfl rfl ?_
      refine z_getR (r := 83) rfl rfl (hRr _ rm_50_58 (by decide)) ?_
      refine z_iload rfl rfl ?_
      refine z_iald (v := (-3)) rfl rfl (by decide) (by decide) ((e83.trans (by rw [hso]; rfl))) ?_
      refine z_if_ltT rfl (by decide) (by decide) ?_
      refine z_iload rfl rfl ?_
      refine z_pushI (z := 0) rfl rfl ?_
      refine z_aload rfl rfl ?_
      refine z_getR (r := 84) rfl rfl (hRr _ rm_50_59 (by decide)) ?_
      refine z_iload rfl rfl ?_
      refine z_iald (v := J 44 3) rfl rfl (by decide) (by decide) (s7) ?_
      refine z_pushI (z := 1) rfl rfl ?_
      refine z_isub (e := (J 44 3) - 1) rfl rfl ?_
      refine z_callSi (As := [_, _, _]) (le := [some _, some _, some _]) rfl rfl (Nat.le_of_ble_eq_true rfl) (Nat.le_of_ble_eq_true rfl) rfl ?_
      refine z_iload rfl rfl ?_
      refine z_iload rfl rfl ?_
      refine z_icmp_ltF rfl (by omega) (by decide) (by omega) ?_
      refine z_iload rfl rfl ?_
      refine z_iload rfl rfl ?_
      refine z_icmp_gtF rfl (by omega) (by omega) (by omega) ?_
      refine z_pushI (z := 1) rfl rfl ?_
      refine z_goto rfl ?_
      refine z_bret rfl rfl (by decide) ?_
      show zW _ _ _ _ _ _ _ _ _ _
      refine z_if_eqF rfl (by decide) (by decide) ?_
      refine z_pushI (z := 0) rfl rfl ?_
      refine z_goto rfl ?_
      refine z_iret rfl rfl ?_
      show zW _ _ _ _ _ _ _ _ _ _
      refine z_istore rfl rfl ?_
      refine z_iload rfl rfl ?_
      refine z_if_geT rfl (by decide) (by decide) ?_
      refine z_pushI (z := (-2)) rfl rfl ?_
      refine z_aload rfl rfl ?_
      refine z_getR (r := 83) rfl rfl (hRr _ rm_50_58 (by decide)) ?_
      refine z_iload rfl rfl ?_
      refine z_iald (v := (-3)) rfl rfl (by decide) (by decide) ((e83.trans (by rw [hso]; rfl))) ?_
      refine z_isub (e := 1) rfl rfl ?_
      refine z_istore rfl rfl ?_
      refine z_aload rfl rfl ?_
      refine z_getR (r := 85) rfl rfl (hRr _ rm_50_60 (by decide)) ?_
      refine z_pushI (z := 60) rfl rfl ?_
      refine z_iload rfl rfl ?_
      refine z_imul (e := 180) rfl rfl ?_
      refine z_iload rfl rfl ?_
      refine z_iadd (e := 180 + i) rfl rfl ?_
      refine z_iload rfl rfl ?_
      refine z_if_neT rfl (by decide) (by decide) ?_
      refine z_iload rfl rfl ?_
      refine z_pushI (z := 1) rfl rfl ?_
      refine z_icmp_neF rfl (by decide) (by decide) (by decide) ?_
      refine z_lload rfl rfl ?_
      refine z_l2i rfl ?_
      refine z_i2s (e := zh v) rfl rfl ?_
      have q4 := zh_r v
      refine z_i2l rfl (by omega) ?_
      refine z_goto rfl ?_
      refine z_last (e := zh v) rfl rfl (by decide) (by omega) rfl ?_
      refine z_pushI (z := 1) rfl rfl ?_
      refine z_iret rfl rfl ?_
      refine ⟨?_, ?_⟩
      · first | rfl | exact congrArg (fun v => some (zi v)) (by omega) | (exfalso; omega)
      · have hk := (zK_r (k := (kL [] [])) (A := J))
        have hkm := (zK_x (a := 85) (x := 180 + i) (v := zh v) (zK_x (a := 45) (x := i) (v := zh v) (zK_r (k := (kL [45, 85] [])) (A := M)) rfl) rfl)
        exact ⟨hR, hG, RelY_k hk (by repeat' constructor) (fun p => by repeat' constructor) hY, RelD_k hk (by repeat' constructor) (fun p => by repeat' constructor) hD, RelP_k hk (by repeat' constructor) (fun p => by repeat' constructor) hP, RelC_k hk (by repeat' constructor) (fun p => by repeat' constructor) hC, RelA_k hk (by repeat' constructor) (fun p => by repeat' constructor) hAc, (RelS_one (J := J) (M := M) (c := 3) (fun t t1 t2 te => by have q : t = 0 ∨ t = 1 ∨ t = 2 ∨ t = 3 ∨ t = 4 ∨ t = 5 := (by omega); rcases q with rfl | rfl | rfl | rfl | rfl | rfl <;> first | exact absurd rfl te | exact ⟨fun j => rfl, rfl, rfl⟩) (fun t t1 t2 te => by have q : t = 0 ∨ t = 1 ∨ t = 2 ∨ t = 3 ∨ t = 4 ∨ t = 5 := (by omega); rcases q with rfl | rfl | rfl | rfl | rfl | rfl <;> first | exact absurd rfl te | exact ⟨fun j => rfl, fun j j1 j2 => (zU_x (by omega)).trans (zU_n (by decide))⟩) rfl (show RelS1 _ _ _ from ⟨(hS 3 (by decide) (by decide)).1, (hS 3 (by decide) (by decide)).2.1, s3, s4, (hS 3 (by decide) (by decide)).2.2.2.2.1, fun _ => ⟨s7.symm, fun k k1 k2 => by show (if k = i then zh v else M 45 k) = (if 180 + k = 180 + i then zh v else M 85 (180 + k)); by_cases e : k = i; rw [if_pos e, if_pos (by omega)]; rw [if_neg e, if_neg (by omega)]; exact s8 k k1 k2, (fun hq => absurd (Eq.trans (Eq.symm hq) hso) (by decide))⟩⟩) hS), RelT_k hk (by repeat' constructor) (fun p => by repeat' constructor) hTp, RelX_k hk (by repeat' constructor) (fun p => by repeat' constructor) hX, RelW_k hk ⟨rfl, rfl⟩ trivial hW⟩
theorem st_put_322 {X : Nat × (Nat → Int32)} {d : Nat} {J M : zA} {R : zR} {i v : Int} (hr : Rel X J M R) (hi : -2147483648 ≤ i ∧ i < 2147483648) (hv : -9223372036854775808 ≤ v ∧ v < 9223372036854775808) (hh : J 44 0 = 2) (hso : J 44 2 = 2) : zW X (d + 20) 138 0 (gEn 138 [(.ref 0), (zi 3), (zi i), (zl v)]) [] J M R (stP X (d + 20) 252 [(zi 3), (zi i), (zl v)]) := by
  have hr0 := hr
  obtain ⟨hR, hG, hY, hD, hP, hC, hAc, hS, hTp, hX, hW⟩ := hr0
  have hRr : zRoR R := zRoR_of hR
  have e83 : J 83 3 = -2 - J 44 2 := (hS 3 (by decide) (by decide)).1.symm.trans (cH_2 hh)
  have s3 : 0 ≤ J 44 2 ∧ J 44 2 ≤ 4 := (hS 3 (by decide) (by decide)).2.2.1
  have s4 : 0 ≤ J 44 3 ∧ J 44 3 ≤ 60 := (hS 3 (by decide) (by decide)).2.2.2.1
  have s6 := (hS 3 (by decide) (by decide)).2.2.2.2.2 hh
  have s7 : J 84 3 = J 44 3 := s6.1.symm
  have s8 : ∀ i, 0 ≤ i → i < J 44 3 → M 45 i = M 85 (180 + i) := s6.2.1
  show zW _ _ _ _ [some (.ref 0), some (zi 3), some (zi i), some (zl v), none, none] _ _ _ _ _
  refine z_iload rfl rfl ?_
  refine z_callSi (As := [_]) (le := [some _]) rfl rfl (Nat.le_of_ble_eq_true rfl) (Nat.le_of_ble_eq_true rfl) rfl ?_
  refine z_iload rfl rfl ?_
  refine z_if_ltF rfl (by decide) (by decide) ?_
  refine z_iload rfl rfl ?_
  refine z_pushI (z := 6) rfl rfl ?_
  refine z_icmp_geF rfl (by decide) (by decide) (by decide) ?_
  refine z_pushI (z := 1) rfl rfl ?_
  refine z_goto rfl ?_
  refine z_bret rfl rfl (by decide) ?_
  show zW _ _ _ _ _ _ _ _ _ _
  refine z_if_neT rfl (by decide) (by decide) ?_
  refine z_aload rfl rfl ?_
  refine z_getR (r := 37) rfl rfl (hR _ rm_0_11) ?_
  refine z_iload rfl rfl ?_
  refine z_aald (r := 44) rfl rfl (by decide) (by decide) (hR _ rm_37_3) ?_
  refine z_iload rfl rfl ?_
  refine z_callVi (As := [_]) (le := [some _, some _]) rfl rfl rfl (Nat.le_of_ble_eq_true rfl) (Nat.le_of_ble_eq_true rfl) rfl ?_
  refine z_aload rfl rfl ?_
  refine z_getI (v := 2) rfl rfl (hh) ?_
  refine z_if_neT rfl (by decide) (by decide) ?_
  refine z_aload rfl rfl ?_
  refine z_getI (v := 2) rfl rfl (hh) ?_
  refine z_pushI (z := 2) rfl rfl ?_
  refine z_icmp_eqT rfl (by decide) (by decide) (by decide) ?_
  refine z_iload rfl rfl ?_
  refine z_if_lt rfl (by omega) (fun h1 => ?_) (fun h1 => ?_)
  · refine z_pushI (z := (-13)) rfl rfl ?_
    refine z_iret rfl rfl ?_
    show zW _ _ _ _ _ _ _ _ _ _
    refine z_istore rfl rfl ?_
    refine z_iload rfl rfl ?_
    refine z_if_geF rfl (by decide) (by decide) ?_
    refine z_iload rfl rfl ?_
    refine z_iret rfl rfl ?_
    refine ⟨_, rfl, ?_⟩
    show zW _ _ _ _ [some (.ref 50), some (zi 3), some (zi i), some (zl v), none, none, none] _ _ _ _ _
    refine z_aload rfl rfl ?_
    refine z_iload rfl rfl ?_
    refine z_iload rfl rfl ?_
    refine z_callVi (As := [_, _]) (le := [some _, some _, some _]) rfl rfl rfl (Nat.le_of_ble_eq_true rfl) (Nat.le_of_ble_eq_true rfl) rfl ?_
    refine z_iload rfl rfl ?_
    refine z_callSi (As := [_]) (le := [some _]) rfl rfl (Nat.le_of_ble_eq_true rfl) (Nat.le_of_ble_eq_true rfl) rfl ?_
    refine z_iload rfl rfl ?_
    refine z_pushI (z := 0) rfl rfl ?_
    refine z_pushI (z := 5) rfl rfl ?_
    refine z_callSi (As := [_, _, _]) (le := [some _, some _, some _]) rfl rfl (Nat.le_of_ble_eq_true rfl) (Nat.le_of_ble_eq_true rfl) rfl ?_
    refine z_iload rfl rfl ?_
    refine z_iload rfl rfl ?_
    refine z_icmp_ltF rfl (by decide) (by decide) (by decide) ?_
    refine z_iload rfl rfl ?_
    refine z_iload rfl rfl ?_
    refine z_icmp_gtF rfl (by decide) (by decide) (by decide) ?_
    refine z_pushI (z := 1) rfl rfl ?_
    refine z_goto rfl ?_
    refine z_bret rfl rfl (by decide) ?_
    show zW _ _ _ _ _ _ _ _ _ _
    refine z_bret rfl rfl (by decide) ?_
    show zW _ _ _ _ _ _ _ _ _ _
    refine z_if_neT rfl (by decide) (by decide) ?_
    refine z_aload rfl rfl ?_
    refine z_getR (r := 83) rfl rfl (hRr _ rm_50_58 (by decide)) ?_
    refine z_iload rfl rfl ?_
    refine z_iald (v := (-4)) rfl rfl (by decide) (by decide) ((e83.trans (by rw [hso]; rfl))) ?_
    refine z_pushI (z := (-1)) rfl rfl ?_
    refine z_icmp_neT rfl (by decide) (by decide) (by decide) ?_
    refine z_aload rfl rfl ?_
    refine z_getR (r := 83) rfl rfl (hRr _ rm_50_58 (by decide)) ?_
    refine z_iload rfl rfl ?_
    refine z_iald (v := (-4)) rfl rfl (by decide) (by decide) ((e83.trans (by rw [hso]; rfl))) ?_
    refine z_if_ltT rfl (by decide) (by decide) ?_
    refine z_iload rfl rfl ?_
    refine z_pushI (z := 0) rfl rfl ?_
    refine z_aload rfl rfl ?_
    refine z_getR (r := 84) rfl rfl (hRr _ rm_50_59 (by decide)) ?_
    refine z_iload rfl rfl ?_
    refine z_iald (v := J 44 3) rfl rfl (by decide) (by decide) (s7) ?_
    refine z_pushI (z := 1) rfl rfl ?_
    refine z_isub (e := (J 44 3) - 1) rfl rfl ?_
    refine z_callSi (As := [_, _, _]) (le := [some _, some _, some _]) rfl rfl (Nat.le_of_ble_eq_true rfl) (Nat.le_of_ble_eq_true rfl) rfl ?_
    refine z_iload rfl rfl ?_
    refine z_iload rfl rfl ?_
    refine z_icmp_ltT rfl (by omega) (by decide) (by omega) ?_
    refine z_pushI (z := 0) rfl rfl ?_
    refine z_bret rfl rfl (by decide) ?_
    show zW _ _ _ _ _ _ _ _ _ _
    refine z_if_eqT rfl (by decide) (by decide) ?_
    refine z_pushI (z := (-13)) rfl rfl ?_
    refine z_iret rfl rfl ?_
    show zW _ _ _ _ _ _ _ _ _ _
    refine z_istore rfl rfl ?_
    refine z_iload rfl rfl ?_
    refine z_if_geF rfl (by decide) (by decide) ?_
    refine z_iload rfl rfl ?_
    refine z_iret rfl rfl ?_
    refine ⟨?_, ?_⟩
    · first | rfl | exact congrArg (fun v => some (zi v)) (by omega) | (exfalso; omega)
    · exact hr
  · refine z_iload rfl rfl ?_
    refine z_aload rfl rfl ?_
    refine z_getI (v := J 44 3) rfl rfl (rfl) ?_
    refine z_icmp_ge rfl (by omega) (by omega) (fun h2 => ?_) (fun h2 => ?_)
    · refine z_pushI (z := (-13)) rfl rfl ?_
      refine z_iret rfl rfl ?_
      show zW _ _ _ _ _ _ _ _ _ _
      refine z_istore rfl rfl ?_
      refine z_iload rfl rfl ?_
      refine z_if_geF rfl (by decide) (by decide) ?_
      refine z_iload rfl rfl ?_
      refine z_iret rfl rfl ?_
      refine ⟨_, rfl, ?_⟩
      show zW _ _ _ _ [some (.ref 50), some (zi 3), some (zi i), some (zl v), none, none, none] _ _ _ _ _
      refine z_aload rfl rfl ?_
      refine z_iload rfl rfl ?_
      refine z_iload rfl rfl ?_
      refine z_callVi (As := [_, _]) (le := [some _, some _, some _]) rfl rfl rfl (Nat.le_of_ble_eq_true rfl) (Nat.le_of_ble_eq_true rfl) rfl ?_
      refine z_iload rfl rfl ?_
      refine z_callSi (As := [_]) (le := [some _]) rfl rfl (Nat.le_of_ble_eq_true rfl) (Nat.le_of_ble_eq_true rfl) rfl ?_
      refine z_iload rfl rfl ?_
      refine z_pushI (z := 0) rfl rfl ?_
      refine z_pushI (z := 5) rfl rfl ?_
      refine z_callSi (As := [_, _, _]) (le := [some _, some _, some _]) rfl rfl (Nat.le_of_ble_eq_true rfl) (Nat.le_of_ble_eq_true rfl) rfl ?_
      refine z_iload rfl rfl ?_
      refine z_iload rfl rfl ?_
      refine z_icmp_ltF rfl (by decide) (by decide) (by decide) ?_
      refine z_iload rfl rfl ?_
      refine z_iload rfl rfl ?_
      refine z_icmp_gtF rfl (by decide) (by decide) (by decide) ?_
      refine z_pushI (z := 1) rfl rfl ?_
      refine z_goto rfl ?_
      refine z_bret rfl rfl (by decide) ?_
      show zW _ _ _ _ _ _ _ _ _ _
      refine z_bret rfl rfl (by decide) ?_
      show zW _ _ _ _ _ _ _ _ _ _
      refine z_if_neT rfl (by decide) (by decide) ?_
      refine z_aload rfl rfl ?_
      refine z_getR (r := 83) rfl rfl (hRr _ rm_50_58 (by decide)) ?_
      refine z_iload rfl rfl ?_
      refine z_iald (v := (-4)) rfl rfl (by decide) (by decide) ((e83.trans (by rw [hso]; rfl))) ?_
      refine z_pushI (z := (-1)) rfl rfl ?_
      refine z_icmp_neT rfl (by decide) (by decide) (by decide) ?_
      refine z_aload rfl rfl ?_
      refine z_getR (r := 83) rfl rfl (hRr _ rm_50_58 (by decide)) ?_
      refine z_iload rfl rfl ?_
      refine z_iald (v := (-4)) rfl rfl (by decide) (by decide) ((e83.trans (by rw [hso]; rfl))) ?_
      refine z_if_ltT rfl (by decide) (by decide) ?_
      refine z_iload rfl rfl ?_
      refine z_pushI (z := 0) rfl rfl ?_
      refine z_aload rfl rfl ?_
      refine z_getR (r := 84) rfl rfl (hRr _ rm_50_59 (by decide)) ?_
      refine z_iload rfl rfl ?_
      refine z_iald (v := J 44 3) rfl rfl (by decide) (by decide) (s7) ?_
      refine z_pushI (z := 1) rfl rfl ?_
      refine z_isub (e := (J 44 3) - 1) rfl rfl ?_
      refine z_callSi (As := [_, _, _]) (le := [some _, some _, some _]) rfl rfl (Nat.le_of_ble_eq_true rfl) (Nat.le_of_ble_eq_true rfl) rfl ?_
      refine z_iload rfl rfl ?_
      refine z_iload rfl rfl ?_
      refine z_icmp_ltF rfl (by omega) (by decide) (by omega) ?_
      refine z_iload rfl rfl ?_
      refine z_iload rfl rfl ?_
      refine z_icmp_gtT rfl (by omega) (by omega) (by omega) ?_
      refine z_pushI (z := 0) rfl rfl ?_
      refine z_bret rfl rfl (by decide) ?_
      show zW _ _ _ _ _ _ _ _ _ _
      refine z_if_eqT rfl (by decide) (by decide) ?_
      refine z_pushI (z := (-13)) rfl rfl ?_
      refine z_iret rfl rfl ?_
      show zW _ _ _ _ _ _ _ _ _ _
      refine z_istore rfl rfl ?_
      refine z_iload rfl rfl ?_
      refine z_if_geF rfl (by decide) (by decide) ?_
      refine z_iload rfl rfl ?_
      refine z_iret rfl rfl ?_
      refine ⟨?_, ?_⟩
      · first | rfl | exact congrArg (fun v => some (zi v)) (by omega) | (exfalso; omega)
      · exact hr
    · refine z_pushI (z := 0) rfl rfl ?_
      refine z_goto rfl ?_
      refine z_iret rfl rfl ?_
      show zW _ _ _ _ _ _ _ _ _ _
      refine z_istore rfl rfl ?_
      refine z_iload rfl rfl ?_
      refine z_if_geT rfl (by decide) (by decide) ?_
      refine z_aload rfl rfl ?_
      refine z_getR (r := 37) rfl rfl (hR _ rm_0_11) ?_
      refine z_iload rfl rfl ?_
      refine z_aald (r := 44) rfl rfl (by decide) (by decide) (hR _ rm_37_3) ?_
      refine z_iload rfl rfl ?_
      refine z_lload rfl rfl ?_
      refine z_callVi (As := [_, _]) (le := [some _, some _, some _, none]) rfl rfl rfl (Nat.le_of_ble_eq_true rfl) (Nat.le_of_ble_eq_true rfl) rfl ?_
      refine z_iload rfl rfl ?_
      refine z_if_ltF rfl (by omega) (by omega) ?_
      refine z_iload rfl rfl ?_
      refine z_aload rfl rfl ?_
      refine z_getI (v := J 44 3) rfl rfl (rfl) ?_
      refine z_icmp_geF rfl (by omega) (by omega) (by omega) ?_
      refine z_aload rfl rfl ?_
      refine z_getR (r := 45) rfl rfl (hR _ rm_44_4) ?_
      refine z_iload rfl rfl ?_
      refine z_aload rfl rfl ?_
      refine z_lload rfl rfl ?_
      refine z_callVi (As := [_]) (le := [some _, some _, none]) rfl rfl rfl (Nat.le_of_ble_eq_true rfl) (Nat.le_of_ble_eq_true rfl) rfl ?_
      refine z_aload rfl rfl ?_
      refine z_getI (v := 2) rfl rfl (hso) ?_
      refine z_swI (tg := 50) rfl (by decide) (T := [((0 : Int), 40), ((1 : Int), 45), ((2 : Int), 50), ((3 : Int), 66), ((4 : Int), 54)]) rfl (by decide) ?_
      refine z_lload rfl rfl ?_
      refine z_l2i rfl ?_
      refine z_topn (e := zn v) rfl ?_
      have q3 := zn_r v
      refine z_i2l rfl (by omega) ?_
      refine z_lret rfl rfl ?_
      show zW _ _ _ _ _ _ _ _ _ _
      refine z_last (e := zn v) rfl rfl (by decide) (by omega) rfl ?_
      refine z_vret rfl rfl ?_
      show zW _ _ _ _ _ _ _ _ _ _
      refine z_pushI (z := 1) rfl rfl ?_
      refine z_iret rfl rfl ?_
      refine ⟨_, rfl, ?_⟩
      show zW _ _ _ _ [some (.ref 50), some (zi 3), some (zi i), some (zl v), none, none, none] _ _ _ _ _
      refine z_aload rfl rfl ?_
      refine z_iload rfl rfl ?_
      refine z_iload rfl rfl ?_
      refine z_callVi (As := [_, _]) (le := [some _, some _, some _]) rfl rfl rfl (Nat.le_of_ble_eq_true rfl) (Nat.le_of_ble_eq_true rfl) rfl ?_
      refine z_iload rfl rfl ?_
      refine z_callSi (As := [_]) (le := [some _]) rfl rfl (Nat.le_of_ble_eq_true rfl) (Nat.le_of_ble_eq_true rfl) rfl ?_
      refine z_iload rfl rfl ?_
      refine z_pushI (z := 0) rfl rfl ?_
      refine z_pushI (z := 5) rfl rfl ?_
      refine z_callSi (As := [_, _, _]) (le := [some _, some _, some _]) rfl rfl (Nat.le_of_ble_eq_true rfl) (Nat.le_of_ble_eq_true rfl) rfl ?_
      refine z_iload rfl rfl ?_
      refine z_iload rfl rfl ?_
      refine z_icmp_ltF rfl (by decide) (by decide) (by decide) ?_
      refine z_iload rfl rfl ?_
      refine z_iload rfl rfl ?_
      refine z_icmp_gtF rfl (by decide) (by decide) (by decide) ?_
      refine z_pushI (z := 1) rfl rfl ?_
      refine z_goto rfl ?_
      refine z_bret rfl rfl (by decide) ?_
      show zW _ _ _ _ _ _ _ _ _ _
      refine z_bret rfl rfl (by decide) ?_
      show zW _ _ _ _ _ _ _ _ _ _
      refine z_if_neT rfl (by decide) (by decide) ?_
      refine z_aload rfl rfl ?_
      refine z_getR (r := 83) rfl rfl (hRr _ rm_50_58 (by decide)) ?_
      refine z_iload rfl rfl ?_
      refine z_iald (v := (-4)) rfl rfl (by decide) (by decide) ((e83.trans (by rw [hso]; rfl))) ?_
      refine z_pushI (z := (-1)) rfl rfl ?_
      refine z_icmp_neT rfl (by decide) (by decide) (by decide) ?_
      refine z_aload rfl rfl ?_
      refine z_getR (r := 83) rfl rfl (hRr _ rm_50_58 (by decide)) ?_
      refine z_iload rfl rfl ?_
      refine z_iald (v := (-4)) rfl rfl (by decide) (by decide) ((e83.trans (by rw [hso]; rfl))) ?_
      refine z_if_ltT rfl (by decide) (by decide) ?_
      refine z_iload rfl rfl ?_
      refine z_pushI (z := 0) rfl rfl ?_
      refine z_aload rfl rfl ?_
      refine z_getR (r := 84) rfl rfl (hRr _ rm_50_59 (by decide)) ?_
      refine z_iload rfl rfl ?_
      refine z_iald (v := J 44 3) rfl rfl (by decide) (by decide) (s7) ?_
      refine z_pushI (z := 1) rfl rfl ?_
      refine z_isub (e := (J 44 3) - 1) rfl rfl ?_
      refine z_callSi (As := [_, _, _]) (le := [some _, some _, some _]) rfl rfl (Nat.le_of_ble_eq_true rfl) (Nat.le_of_ble_eq_true rfl) rfl ?_
      refine z_iload rfl rfl ?_
      refine z_iload rfl rfl ?_
      refine z_icmp_ltF rfl (by omega) (by decide) (by omega) ?_
      refine z_iload rfl rfl ?_
      refine z_iload rfl rfl ?_
      refine z_icmp_gtF rfl (by omega) (by omega) (by omega) ?_
      refine z_pushI (z := 1) rfl rfl ?_
      refine z_goto rfl ?_
      refine z_bret rfl rfl (by decide) ?_
      show zW _ _ _ _ _ _ _ _ _ _
      refine z_if_eqF rfl (by decide) (by decide) ?_
      refine z_pushI (z := 0) rfl rfl ?_
      refine z_goto rfl ?_
      refine z_iret rfl rfl ?_
      show zW _ _ _ _ _ _ _ _ _ _
      refine z_istore rfl rfl ?_
      refine z_iload rfl rfl ?_
      refine z_if_geT rfl (by decide) (by decide) ?_
      refine z_pushI (z := (-2)) rfl rfl ?_
      refine z_aload rfl rfl ?_
      refine z_getR (r := 83) rfl rfl (hRr _ rm_50_58 (by decide)) ?_
      refine z_iload rfl rfl ?_
      refine z_iald (v := (-4)) rfl rfl (by decide) (by decide) ((e83.trans (by rw [hso]; rfl))) ?_
      refine z_isub (e := 2) rfl rfl ?_
      refine z_istore rfl rfl ?_
      refine z_aload rfl rfl ?_
      refine z_getR (r := 85) rfl rfl (hRr _ rm_50_60 (by decide)) ?_
      refine z_pushI (z := 60) rfl rfl ?_
      refine z_iload rfl rfl ?_
      refine z_imul (e := 180) rfl rfl ?_
      refine z_iload rfl rfl ?_
      refine z_iadd (e := 180 + i) rfl rfl ?_
      refine z_iload rfl rfl ?_
      refine z_if_neT rfl (by decide) (by decide) ?_
      refine z_iload rfl rfl ?_
      refine z_pushI (z := 1) rfl rfl ?_
      refine z_icmp_neT rfl (by decide) (by decide) (by decide) ?_
      refine z_iload rfl rfl ?_
      refine z_pushI (z := 2) rfl rfl ?_
      refine z_icmp_neF rfl (by decide) (by decide) (by decide) ?_
      refine z_lload rfl rfl ?_
      refine z_l2i rfl ?_
      refine z_topn (e := zn v) rfl ?_
      have q4 := zn_r v
      refine z_i2l rfl (by omega) ?_
      refine z_goto rfl ?_
      refine z_last (e := zn v) rfl rfl (by decide) (by omega) rfl ?_
      refine z_pushI (z := 1) rfl rfl ?_
      refine z_iret rfl rfl ?_
      refine ⟨?_, ?_⟩
      · first | rfl | exact congrArg (fun v => some (zi v)) (by omega) | (exfalso; omega)
      · have hk := (zK_r (k := (kL [] [])) (A := J))
        have hkm := (zK_x (a := 85) (x := 180 + i) (v := zn v) (zK_x (a := 45) (x := i) (v := zn v) (zK_r (k := (kL [45, 85] [])) (A := M)) rfl) rfl)
        exact ⟨hR, hG, RelY_k hk (by repeat' constructor) (fun p => by repeat' constructor) hY, RelD_k hk (by repeat' constructor) (fun p => by repeat' constructor) hD, RelP_k hk (by repeat' constructor) (fun p => by repeat' constructor) hP, RelC_k hk (by repeat' constructor) (fun p => by repeat' constructor) hC, RelA_k hk (by repeat' constructor) (fun p => by repeat' constructor) hAc, (RelS_one (J := J) (M := M) (c := 3) (fun t t1 t2 te => by have q : t = 0 ∨ t = 1 ∨ t = 2 ∨ t = 3 ∨ t = 4 ∨ t = 5 := (by omega); rcases q with rfl | rfl | rfl | rfl | rfl | rfl <;> first | exact absurd rfl te | exact ⟨fun j => rfl, rfl, rfl⟩) (fun t t1 t2 te => by have q : t = 0 ∨ t = 1 ∨ t = 2 ∨ t = 3 ∨ t = 4 ∨ t = 5 := (by omega); rcases q with rfl | rfl | rfl | rfl | rfl | rfl <;> first | exact absurd rfl te | exact ⟨fun j => rfl, fun j j1 j2 => (zU_x (by omega)).trans (zU_n (by decide))⟩) rfl (show RelS1 _ _ _ from ⟨(hS 3 (by decide) (by decide)).1, (hS 3 (by decide) (by decide)).2.1, s3, s4, (hS 3 (by decide) (by decide)).2.2.2.2.1, fun _ => ⟨s7.symm, fun k k1 k2 => by show (if k = i then zn v else M 45 k) = (if 180 + k = 180 + i then zn v else M 85 (180 + k)); by_cases e : k = i; rw [if_pos e, if_pos (by omega)]; rw [if_neg e, if_neg (by omega)]; exact s8 k k1 k2, (fun hq => absurd (Eq.trans (Eq.symm hq) hso) (by decide))⟩⟩) hS), RelT_k hk (by repeat' constructor) (fun p => by repeat' constructor) hTp, RelX_k hk (by repeat' constructor) (fun p => by repeat' constructor) hX, RelW_k hk ⟨rfl, rfl⟩ trivial hW⟩
theorem st_put_323 {X : Nat × (Nat → Int32)} {d : Nat} {J M : zA} {R : zR} {i v : Int} (hr : Rel X J M R) (hi : -2147483648 ≤ i ∧ i < 2147483648) (hv : -9223372036854775808 ≤ v ∧ v < 9223372036854775808) (hh : J 44 0 = 2) (hso : J 44 2 = 3) : zW X (d + 20) 138 0 (gEn 138 [(.ref 0), (zi 3), (zi i), (zl v)]) [] J M R (stP X (d + 20) 252 [(zi 3), (zi i), (zl v)]) := by
  have hr0 := hr
  obtain ⟨hR, hG, hY, hD, hP, hC, hAc, hS, hTp, hX, hW⟩ := hr0
  have hRr : zRoR R := zRoR_of hR
  have e83 : J 83 3 = -2 - J 44 2 := (hS 3 (by decide) (by decide)).1.symm.trans (cH_2 hh)
  have s3 : 0 ≤ J 44 2 ∧ J 44 2 ≤ 4 := (hS 3 (by decide) (by decide)).2.2.1
  have s4 : 0 ≤ J 44 3 ∧ J 44 3 ≤ 60 := (hS 3 (by decide) (by decide)).2.2.2.1
  have s6 := (hS 3 (by decide) (by decide)).2.2.2.2.2 hh
  have s7 : J 84 3 = J 44 3 := s6.1.symm
  have s8 : ∀ i, 0 ≤ i → i < J 44 3 → M 45 i = M 85 (180 + i) := s6.2.1
  show zW _ _ _ _ [some (.ref 0), some (zi 3), some (zi i), some (zl v), none, none] _ _ _ _ _
  refine z_iload rfl rfl ?_
  refine z_callSi (As := [_]) (le := [some _]) rfl rfl (Nat.le_of_ble_eq_true rfl) (Nat.le_of_ble_eq_true rfl) rfl ?_
  refine z_iload rfl rfl ?_
  refine z_if_ltF rfl (by decide) (by decide) ?_
  refine z_iload rfl rfl ?_
  refine z_pushI (z := 6) rfl rfl ?_
  refine z_icmp_geF rfl (by decide) (by decide) (by decide) ?_
  refine z_pushI (z := 1) rfl rfl ?_
  refine z_goto rfl ?_
  refine z_bret rfl rfl (by decide) ?_
  show zW _ _ _ _ _ _ _ _ _ _
  refine z_if_neT rfl (by decide) (by decide) ?_
  refine z_aload rfl rfl ?_
  refine z_getR (r := 37) rfl rfl (hR _ rm_0_11) ?_
  refine z_iload rfl rfl ?_
  refine z_aald (r := 44) rfl rfl (by decide) (by decide) (hR _ rm_37_3) ?_
  refine z_iload rfl rfl ?_
  refine z_callVi (As := [_]) (le := [some _, some _]) rfl rfl rfl (Nat.le_of_ble_eq_true rfl) (Nat.le_of_ble_eq_true rfl) rfl ?_
  refine z_aload rfl rfl ?_
  refine z_getI (v := 2) rfl rfl (hh) ?_
  refine z_if_neT rfl (by decide) (by decide) ?_
  refine z_aload rfl rfl ?_
  refine z_getI (v := 2) rfl rfl (hh) ?_
  refine z_pushI (z := 2) rfl rfl ?_
  refine z_icmp_eqT rfl (by decide) (by decide) (by decide) ?_
  refine z_iload rfl rfl ?_
  refine z_if_lt rfl (by omega) (fun h1 => ?_) (fun h1 => ?_)
  · refine z_pushI (z := (-13)) rfl rfl ?_
    refine z_iret rfl rfl ?_
    show zW _ _ _ _ _ _ _ _ _ _
    refine z_istore rfl rfl ?_
    refine z_iload rfl rfl ?_
    refine z_if_geF rfl (by decide) (by decide) ?_
    refine z_iload rfl rfl ?_
    refine z_iret rfl rfl ?_
    refine ⟨_, rfl, ?_⟩
    show zW _ _ _ _ [some (.ref 50), some (zi 3), some (zi i), some (zl v), none, none, none] _ _ _ _ _
    refine z_aload rfl rfl ?_
    refine z_iload rfl rfl ?_
    refine z_iload rfl rfl ?_
    refine z_callVi (As := [_, _]) (le := [some _, some _, some _]) rfl rfl rfl (Nat.le_of_ble_eq_true rfl) (Nat.le_of_ble_eq_true rfl) rfl ?_
    refine z_iload rfl rfl ?_
    refine z_callSi (As := [_]) (le := [some _]) rfl rfl (Nat.le_of_ble_eq_true rfl) (Nat.le_of_ble_eq_true rfl) rfl ?_
    refine z_iload rfl rfl ?_
    refine z_pushI (z := 0) rfl rfl ?_
    refine z_pushI (z := 5) rfl rfl ?_
    refine z_callSi (As := [_, _, _]) (le := [some _, some _, some _]) rfl rfl (Nat.le_of_ble_eq_true rfl) (Nat.le_of_ble_eq_true rfl) rfl ?_
    refine z_iload rfl rfl ?_
    refine z_iload rfl rfl ?_
    refine z_icmp_ltF rfl (by decide) (by decide) (by decide) ?_
    refine z_iload rfl rfl ?_
    refine z_iload rfl rfl ?_
    refine z_icmp_gtF rfl (by decide) (by decide) (by decide) ?_
    refine z_pushI (z := 1) rfl rfl ?_
    refine z_goto rfl ?_
    refine z_bret rfl rfl (by decide) ?_
    show zW _ _ _ _ _ _ _ _ _ _
    refine z_bret rfl rfl (by decide) ?_
    show zW _ _ _ _ _ _ _ _ _ _
    refine z_if_neT rfl (by decide) (by decide) ?_
    refine z_aload rfl rfl ?_
    refine z_getR (r := 83) rfl rfl (hRr _ rm_50_58 (by decide)) ?_
    refine z_iload rfl rfl ?_
    refine z_iald (v := (-5)) rfl rfl (by decide) (by decide) ((e83.trans (by rw [hso]; rfl))) ?_
    refine z_pushI (z := (-1)) rfl rfl ?_
    refine z_icmp_neT rfl (by decide) (by decide) (by decide) ?_
    refine z_aload rfl rfl ?_
    refine z_getR (r := 83) rfl rfl (hRr _ rm_50_58 (by decide)) ?_
    refine z_iload rfl rfl ?_
    refine z_iald (v := (-5)) rfl rfl (by decide) (by decide) ((e83.trans (by rw [hso]; rfl))) ?_
    refine z_if_ltT rfl (by decide) (by decide) ?_
    refine z_iload rfl rfl ?_
    refine z_pushI (z := 0) rfl rfl ?_
    refine z_aload rfl rfl ?_
    refine z_getR (r := 84) rfl rfl (hRr _ rm_50_59 (by decide)) ?_
    refine z_iload rfl rfl ?_
    refine z_iald (v := J 44 3) rfl rfl (by decide) (by decide) (s7) ?_
    refine z_pushI (z := 1) rfl rfl ?_
    refine z_isub (e := (J 44 3) - 1) rfl rfl ?_
    refine z_callSi (As := [_, _, _]) (le := [some _, some _, some _]) rfl rfl (Nat.le_of_ble_eq_true rfl) (Nat.le_of_ble_eq_true rfl) rfl ?_
    refine z_iload rfl rfl ?_
    refine z_iload rfl rfl ?_
    refine z_icmp_ltT rfl (by omega) (by decide) (by omega) ?_
    refine z_pushI (z := 0) rfl rfl ?_
    refine z_bret rfl rfl (by decide) ?_
    show zW _ _ _ _ _ _ _ _ _ _
    refine z_if_eqT rfl (by decide) (by decide) ?_
    refine z_pushI (z := (-13)) rfl rfl ?_
    refine z_iret rfl rfl ?_
    show zW _ _ _ _ _ _ _ _ _ _
    refine z_istore rfl rfl ?_
    refine z_iload rfl rfl ?_
    refine z_if_geF rfl (by decide) (by decide) ?_
    refine z_iload rfl rfl ?_
    refine z_iret rfl rfl ?_
    refine ⟨?_, ?_⟩
    · first | rfl | exact congrArg (fun v => some (zi v)) (by omega) | (exfalso; omega)
    · exact hr
  · refine z_iload rfl rfl ?_
    refine z_aload rfl rfl ?_
    refine z_getI (v := J 44 3) rfl rfl (rfl) ?_
    refine z_icmp_ge rfl (by omega) (by omega) (fun h2 => ?_) (fun h2 => ?_)
    · refine z_pushI (z := (-13)) rfl rfl ?_
      refine z_iret rfl rfl ?_
      show zW _ _ _ _ _ _ _ _ _ _
      refine z_istore rfl rfl ?_
      refine z_iload rfl rfl ?_
      refine z_if_geF rfl (by decide) (by decide) ?_
      refine z_iload rfl rfl ?_
      refine z_iret rfl rfl ?_
      refine ⟨_, rfl, ?_⟩
      show zW _ _ _ _ [some (.ref 50), some (zi 3), some (zi i), some (zl v), none, none, none] _ _ _ _ _
      refine z_aload rfl rfl ?_
      refine z_iload rfl rfl ?_
      refine z_iload rfl rfl ?_
      refine z_callVi (As := [_, _]) (le := [some _, some _, some _]) rfl rfl rfl (Nat.le_of_ble_eq_true rfl) (Nat.le_of_ble_eq_true rfl) rfl ?_
      refine z_iload rfl rfl ?_
      refine z_callSi (As := [_]) (le := [some _]) rfl rfl (Nat.le_of_ble_eq_true rfl) (Nat.le_of_ble_eq_true rfl) rfl ?_
      refine z_iload rfl rfl ?_
      refine z_pushI (z := 0) rfl rfl ?_
      refine z_pushI (z := 5) rfl rfl ?_
      refine z_callSi (As := [_, _, _]) (le := [some _, some _, some _]) rfl rfl (Nat.le_of_ble_eq_true rfl) (Nat.le_of_ble_eq_true rfl) rfl ?_
      refine z_iload rfl rfl ?_
      refine z_iload rfl rfl ?_
      refine z_icmp_ltF rfl (by decide) (by decide) (by decide) ?_
      refine z_iload rfl rfl ?_
      refine z_iload rfl rfl ?_
      refine z_icmp_gtF rfl (by decide) (by decide) (by decide) ?_
      refine z_pushI (z := 1) rfl rfl ?_
      refine z_goto rfl ?_
      refine z_bret rfl rfl (by decide) ?_
      show zW _ _ _ _ _ _ _ _ _ _
      refine z_bret rfl rfl (by decide) ?_
      show zW _ _ _ _ _ _ _ _ _ _
      refine z_if_neT rfl (by decide) (by decide) ?_
      refine z_aload rfl rfl ?_
      refine z_getR (r := 83) rfl rfl (hRr _ rm_50_58 (by decide)) ?_
      refine z_iload rfl rfl ?_
      refine z_iald (v := (-5)) rfl rfl (by decide) (by decide) ((e83.trans (by rw [hso]; rfl))) ?_
      refine z_pushI (z := (-1)) rfl rfl ?_
      refine z_icmp_neT rfl (by decide) (by decide) (by decide) ?_
      refine z_aload rfl rfl ?_
      refine z_getR (r := 83) rfl rfl (hRr _ rm_50_58 (by decide)) ?_
      refine z_iload rfl rfl ?_
      refine z_iald (v := (-5)) rfl rfl (by decide) (by decide) ((e83.trans (by rw [hso]; rfl))) ?_
      refine z_if_ltT rfl (by decide) (by decide) ?_
      refine z_iload rfl rfl ?_
      refine z_pushI (z := 0) rfl rfl ?_
      refine z_aload rfl rfl ?_
      refine z_getR (r := 84) rfl rfl (hRr _ rm_50_59 (by decide)) ?_
      refine z_iload rfl rfl ?_
      refine z_iald (v := J 44 3) rfl rfl (by decide) (by decide) (s7) ?_
      refine z_pushI (z := 1) rfl rfl ?_
      refine z_isub (e := (J 44 3) - 1) rfl rfl ?_
      refine z_callSi (As := [_, _, _]) (le := [some _, some _, some _]) rfl rfl (Nat.le_of_ble_eq_true rfl) (Nat.le_of_ble_eq_true rfl) rfl ?_
      refine z_iload rfl rfl ?_
      refine z_iload rfl rfl ?_
      refine z_icmp_ltF rfl (by omega) (by decide) (by omega) ?_
      refine z_iload rfl rfl ?_
      refine z_iload rfl rfl ?_
      refine z_icmp_gtT rfl (by omega) (by omega) (by omega) ?_
      refine z_pushI (z := 0) rfl rfl ?_
      refine z_bret rfl rfl (by decide) ?_
      show zW _ _ _ _ _ _ _ _ _ _
      refine z_if_eqT rfl (by decide) (by decide) ?_
      refine z_pushI (z := (-13)) rfl rfl ?_
      refine z_iret rfl rfl ?_
      show zW _ _ _ _ _ _ _ _ _ _
      refine z_istore rfl rfl ?_
      refine z_iload rfl rfl ?_
      refine z_if_geF rfl (by decide) (by decide) ?_
      refine z_iload rfl rfl ?_
      refine z_iret rfl rfl ?_
      refine ⟨?_, ?_⟩
      · first | rfl | exact congrArg (fun v => some (zi v)) (by omega) | (exfalso; omega)
      · exact hr
    · refine z_pushI (z := 0) rfl rfl ?_
      refine z_goto rfl ?_
      refine z_iret rfl rfl ?_
      show zW _ _ _ _ _ _ _ _ _ _
      refine z_istore rfl rfl ?_
      refine z_iload rfl rfl ?_
      refine z_if_geT rfl (by decide) (by decide) ?_
      refine z_aload rfl rfl ?_
      refine z_getR (r := 37) rfl rfl (hR _ rm_0_11) ?_
      refine z_iload rfl rfl ?_
      refine z_aald (r := 44) rfl rfl (by decide) (by decide) (hR _ rm_37_3) ?_
      refine z_iload rfl rfl ?_
      refine z_lload rfl rfl ?_
      refine z_callVi (As := [_, _]) (le := [some _, some _, some _, none]) rfl rfl rfl (Nat.le_of_ble_eq_true rfl) (Nat.le_of_ble_eq_true rfl) rfl ?_
      refine z_iload rfl rfl ?_
      refine z_if_ltF rfl (by omega) (by omega) ?_
      refine z_iload rfl rfl ?_
      refine z_aload rfl rfl ?_
      refine z_getI (v := J 44 3) rfl rfl (rfl) ?_
      refine z_icmp_geF rfl (by omega) (by omega) (by omega) ?_
      refine z_aload rfl rfl ?_
      refine z_getR (r := 45) rfl rfl (hR _ rm_44_4) ?_
      refine z_iload rfl rfl ?_
      refine z_aload rfl rfl ?_
      refine z_lload rfl rfl ?_
      refine z_callVi (As := [_]) (le := [some _, some _, none]) rfl rfl rfl (Nat.le_of_ble_eq_true rfl) (Nat.le_of_ble_eq_true rfl) rfl ?_
      refine z_aload rfl rfl ?_
      refine z_getI (v := 3) rfl rfl (hso) ?_
      refine z_swI (tg := 66) rfl (by decide) (T := [((0 : Int), 40), ((1 : Int), 45), ((2 : Int), 50), ((3 : Int), 66), ((4 : Int), 54)]) rfl (by decide) ?_
      refine z_lload rfl rfl ?_
      refine z_lret rfl rfl ?_
      show zW _ _ _ _ _ _ _ _ _ _
      refine z_last (e := v) rfl rfl (by decide) (by omega) rfl ?_
      refine z_vret rfl rfl ?_
      show zW _ _ _ _ _ _ _ _ _ _
      refine z_pushI (z := 1) rfl rfl ?_
      refine z_iret rfl rfl ?_
      refine ⟨_, rfl, ?_⟩
      show zW _ _ _ _ [some (.ref 50), some (zi 3), some (zi i), some (zl v), none, none, none] _ _ _ _ _
      refine z_aload rfl rfl ?_
      refine z_iload rfl rfl ?_
      refine z_iload rfl rfl ?_
      refine z_callVi (As := [_, _]) (le := [some _, some _, some _]) rfl rfl rfl (Nat.le_of_ble_eq_true rfl) (Nat.le_of_ble_eq_true rfl) rfl ?_
      refine z_iload rfl rfl ?_
      refine z_callSi (As := [_]) (le := [some _]) rfl rfl (Nat.le_of_ble_eq_true rfl) (Nat.le_of_ble_eq_true rfl) rfl ?_
      refine z_iload rfl rfl ?_
      refine z_pushI (z := 0) rfl rfl ?_
      refine z_pushI (z := 5) rfl rfl ?_
      refine z_callSi (As := [_, _, _]) (le := [some _, some _, some _]) rfl rfl (Nat.le_of_ble_eq_true rfl) (Nat.le_of_ble_eq_true rfl) rfl ?_
      refine z_iload rfl rfl ?_
      refine z_iload rfl rfl ?_
      refine z_icmp_ltF rfl (by decide) (by decide) (by decide) ?_
      refine z_iload rfl rfl ?_
      refine z_iload rfl rfl ?_
      refine z_icmp_gtF rfl (by decide) (by decide) (by decide) ?_
      refine z_pushI (z := 1) rfl rfl ?_
      refine z_goto rfl ?_
      refine z_bret rfl rfl (by decide) ?_
      show zW _ _ _ _ _ _ _ _ _ _
      refine z_bret rfl rfl (by decide) ?_
      show zW _ _ _ _ _ _ _ _ _ _
      refine z_if_neT rfl (by decide) (by decide) ?_
      refine z_aload rfl rfl ?_
      refine z_getR (r := 83) rfl rfl (hRr _ rm_50_58 (by decide)) ?_
      refine z_iload rfl rfl ?_
      refine z_iald (v := (-5)) rfl rfl (by decide) (by decide) ((e83.trans (by rw [hso]; rfl))) ?_
      refine z_pushI (z := (-1)) rfl rfl ?_
      refine z_icmp_neT rfl (by decide) (by decide) (by decide) ?_
      refine z_aload rfl rfl ?_
      refine z_getR (r := 83) rfl rfl (hRr _ rm_50_58 (by decide)) ?_
      refine z_iload rfl rfl ?_
      refine z_iald (v := (-5)) rfl rfl (by decide) (by decide) ((e83.trans (by rw [hso]; rfl))) ?_
      refine z_if_ltT rfl (by decide) (by decide) ?_
      refine z_iload rfl rfl ?_
      refine z_pushI (z := 0) rfl rfl ?_
      refine z_aload rfl rfl ?_
      refine z_getR (r := 84) rfl rfl (hRr _ rm_50_59 (by decide)) ?_
      refine z_iload rfl rfl ?_
      refine z_iald (v := J 44 3) rfl rfl (by decide) (by decide) (s7) ?_
      refine z_pushI (z := 1) rfl rfl ?_
      refine z_isub (e := (J 44 3) - 1) rfl rfl ?_
      refine z_callSi (As := [_, _, _]) (le := [some _, some _, some _]) rfl rfl (Nat.le_of_ble_eq_true rfl) (Nat.le_of_ble_eq_true rfl) rfl ?_
      refine z_iload rfl rfl ?_
      refine z_iload rfl rfl ?_
      refine z_icmp_ltF rfl (by omega) (by decide) (by omega) ?_
      refine z_iload rfl rfl ?_
      refine z_iload rfl rfl ?_
      refine z_icmp_gtF rfl (by omega) (by omega) (by omega) ?_
      refine z_pushI (z := 1) rfl rfl ?_
      refine z_goto rfl ?_
      refine z_bret rfl rfl (by decide) ?_
      show zW _ _ _ _ _ _ _ _ _ _
      refine z_if_eqF rfl (by decide) (by decide) ?_
      refine z_pushI (z := 0) rfl rfl ?_
      refine z_goto rfl ?_
      refine z_iret rfl rfl ?_
      show zW _ _ _ _ _ _ _ _ _ _
      refine z_istore rfl rfl ?_
      refine z_iload rfl rfl ?_
      refine z_if_geT rfl (by decide) (by decide) ?_
      refine z_pushI (z := (-2)) rfl rfl ?_
      refine z_aload rfl rfl ?_
      refine z_getR (r := 83) rfl rfl (hRr _ rm_50_58 (by decide)) ?_
      refine z_iload rfl rfl ?_
      refine z_iald (v := (-5)) rfl rfl (by decide) (by decide) ((e83.trans (by rw [hso]; rfl))) ?_
      refine z_isub (e := 3) rfl rfl ?_
      refine z_istore rfl rfl ?_
      refine z_aload rfl rfl ?_
      refine z_getR (r := 85) rfl rfl (hRr _ rm_50_60 (by decide)) ?_
      refine z_pushI (z := 60) rfl rfl ?_
      refine z_iload rfl rfl ?_
      refine z_imul (e := 180) rfl rfl ?_
      refine z_iload rfl rfl ?_
      refine z_iadd (e := 180 + i) rfl rfl ?_
      refine z_iload rfl rfl ?_
      refine z_if_neT rfl (by decide) (by decide) ?_
      refine z_iload rfl rfl ?_
      refine z_pushI (z := 1) rfl rfl ?_
      refine z_icmp_neT rfl (by decide) (by decide) (by decide) ?_
      refine z_iload rfl rfl ?_
      refine z_pushI (z := 2) rfl rfl ?_
      refine z_icmp_neT rfl (by decide) (by decide) (by decide) ?_
      refine z_iload rfl rfl ?_
      refine z_pushI (z := 3) rfl rfl ?_
      refine z_icmp_neF rfl (by decide) (by decide) (by decide) ?_
      refine z_lload rfl rfl ?_
      refine z_goto rfl ?_
      refine z_last (e := v) rfl rfl (by decide) (by omega) rfl ?_
      refine z_pushI (z := 1) rfl rfl ?_
      refine z_iret rfl rfl ?_
      refine ⟨?_, ?_⟩
      · first | rfl | exact congrArg (fun v => some (zi v)) (by omega) | (exfalso; omega)
      · have hk := (zK_r (k := (kL [] [])) (A := J))
        have hkm := (zK_x (a := 85) (x := 180 + i) (v := v) (zK_x (a := 45) (x := i) (v := v) (zK_r (k := (kL [45, 85] [])) (A := M)) rfl) rfl)
        exact ⟨hR, hG, RelY_k hk (by repeat' constructor) (fun p => by repeat' constructor) hY, RelD_k hk (by repeat' constructor) (fun p => by repeat' constructor) hD, RelP_k hk (by repeat' constructor) (fun p => by repeat' constructor) hP, RelC_k hk (by repeat' constructor) (fun p => by repeat' constructor) hC, RelA_k hk (by repeat' constructor) (fun p => by repeat' constructor) hAc, (RelS_one (J := J) (M := M) (c := 3) (fun t t1 t2 te => by have q : t = 0 ∨ t = 1 ∨ t = 2 ∨ t = 3 ∨ t = 4 ∨ t = 5 := (by omega); rcases q with rfl | rfl | rfl | rfl | rfl | rfl <;> first | exact absurd rfl te | exact ⟨fun j => rfl, rfl, rfl⟩) (fun t t1 t2 te => by have q : t = 0 ∨ t = 1 ∨ t = 2 ∨ t = 3 ∨ t = 4 ∨ t = 5 := (by omega); rcases q with rfl | rfl | rfl | rfl | rfl | rfl <;> first | exact absurd rfl te | exact ⟨fun j => rfl, fun j j1 j2 => (zU_x (by omega)).trans (zU_n (by decide))⟩) rfl (show RelS1 _ _ _ from ⟨(hS 3 (by decide) (by decide)).1, (hS 3 (by decide) (by decide)).2.1, s3, s4, (hS 3 (by decide) (by decide)).2.2.2.2.1, fun _ => ⟨s7.symm, fun k k1 k2 => by show (if k = i then v else M 45 k) = (if 180 + k = 180 + i then v else M 85 (180 + k)); by_cases e : k = i; rw [if_pos e, if_pos (by omega)]; rw [if_neg e, if_neg (by omega)]; exact s8 k k1 k2, (fun hq => absurd (Eq.trans (Eq.symm hq) hso) (by decide))⟩⟩) hS), RelT_k hk (by repeat' constructor) (fun p => by repeat' constructor) hTp, RelX_k hk (by repeat' constructor) (fun p => by repeat' constructor) hX, RelW_k hk ⟨rfl, rfl⟩ trivial hW⟩
theorem st_put_324 {X : Nat × (Nat → Int32)} {d : Nat} {J M : zA} {R : zR} {i v : Int} (hr : Rel X J M R) (hi : -2147483648 ≤ i ∧ i < 2147483648) (hv : -9223372036854775808 ≤ v ∧ v < 9223372036854775808) (hh : J 44 0 = 2) (hso : J 44 2 = 4) : zW X (d + 20) 138 0 (gEn 138 [(.ref 0), (zi 3), (zi i), (zl v)]) [] J M R (stP X (d + 20) 252 [(zi 3), (zi i), (zl v)]) := by
  have hr0 := hr
  obtain ⟨hR, hG, hY, hD, hP, hC, hAc, hS, hTp, hX, hW⟩ := hr0
  have hRr : zRoR R := zRoR_of hR
  have e83 : J 83 3 = -2 - J 44 2 := (hS 3 (by decide) (by decide)).1.symm.trans (cH_2 hh)
  have s3 : 0 ≤ J 44 2 ∧ J 44 2 ≤ 4 := (hS 3 (by decide) (by decide)).2.2.1
  have s4 : 0 ≤ J 44 3 ∧ J 44 3 ≤ 60 := (hS 3 (by decide) (by decide)).2.2.2.1
  have s6 := (hS 3 (by decide) (by decide)).2.2.2.2.2 hh
  have s7 : J 84 3 = J 44 3 := s6.1.symm
  have s8 : ∀ i, 0 ≤ i → i < J 44 3 → M 45 i = M 85 (180 + i) := s6.2.1
  show zW _ _ _ _ [some (.ref 0), some (zi 3), some (zi i), some (zl v), none, none] _ _ _ _ _
  refine z_iload rfl rfl ?_
  refine z_callSi (As := [_]) (le := [some _]) rfl rfl (Nat.le_of_ble_eq_true rfl) (Nat.le_of_ble_eq_true rfl) rfl ?_
  refine z_iload rfl rfl ?_
  refine z_if_ltF rfl (by decide) (by decide) ?_
  refine z_iload rfl rfl ?_
  refine z_pushI (z := 6) rfl rfl ?_
  refine z_icmp_geF rfl (by decide) (by decide) (by decide) ?_
  refine z_pushI (z := 1) rfl rfl ?_
  refine z_goto rfl ?_
  refine z_bret rfl rfl (by decide) ?_
  show zW _ _ _ _ _ _ _ _ _ _
  refine z_if_neT rfl (by decide) (by decide) ?_
  refine z_aload rfl rfl ?_
  refine z_getR (r := 37) rfl rfl (hR _ rm_0_11) ?_
  refine z_iload rfl rfl ?_
  refine z_aald (r := 44) rfl rfl (by decide) (by decide) (hR _ rm_37_3) ?_
  refine z_iload rfl rfl ?_
  refine z_callVi (As := [_]) (le := [some _, some _]) rfl rfl rfl (Nat.le_of_ble_eq_true rfl) (Nat.le_of_ble_eq_true rfl) rfl ?_
  refine z_aload rfl rfl ?_
  refine z_getI (v := 2) rfl rfl (hh) ?_
  refine z_if_neT rfl (by decide) (by decide) ?_
  refine z_aload rfl rfl ?_
  refine z_getI (v := 2) rfl rfl (hh) ?_
  refine z_pushI (z := 2) rfl rfl ?_
  refine z_icmp_eqT rfl (by decide) (by decide) (by decide) ?_
  refine z_iload rfl rfl ?_
  refine z_if_lt rfl (by omega) (fun h1 => ?_) (fun h1 => ?_)
  · refine z_pushI (z := (-13)) rfl rfl ?_
    refine z_iret rfl rfl ?_
    show zW _ _ _ _ _ _ _ _ _ _
    refine z_istore rfl rfl ?_
    refine z_iload rfl rfl ?_
    refine z_if_geF rfl (by decide) (by decide) ?_
    refine z_iload rfl rfl ?_
    refine z_iret rfl rfl ?_
    refine ⟨_, rfl, ?_⟩
    show zW _ _ _ _ [some (.ref 50), some (zi 3), some (zi i), some (zl v), none, none, none] _ _ _ _ _
    refine z_aload rfl rfl ?_
    refine z_iload rfl rfl ?_
    refine z_iload rfl rfl ?_
    refine z_callVi (As := [_, _]) (le := [some _, some _, some _]) rfl rfl rfl (Nat.le_of_ble_eq_true rfl) (Nat.le_of_ble_eq_true rfl) rfl ?_
    refine z_iload rfl rfl ?_
    refine z_callSi (As := [_]) (le := [some _]) rfl rfl (Nat.le_of_ble_eq_true rfl) (Nat.le_of_ble_eq_true rfl) rfl ?_
    refine z_iload rfl rfl ?_
    refine z_pushI (z := 0) rfl rfl ?_
    refine z_pushI (z := 5) rfl rfl ?_
    refine z_callSi (As := [_, _, _]) (le := [some _, some _, some _]) rfl rfl (Nat.le_of_ble_eq_true rfl) (Nat.le_of_ble_eq_true rfl) rfl ?_
    refine z_iload rfl rfl ?_
    refine z_iload rfl rfl ?_
    refine z_icmp_ltF rfl (by decide) (by decide) (by decide) ?_
    refine z_iload rfl rfl ?_
    refine z_iload rfl rfl ?_
    refine z_icmp_gtF rfl (by decide) (by decide) (by decide) ?_
    refine z_pushI (z := 1) rfl rfl ?_
    refine z_goto rfl ?_
    refine z_bret rfl rfl (by decide) ?_
    show zW _ _ _ _ _ _ _ _ _ _
    refine z_bret rfl rfl (by decide) ?_
    show zW _ _ _ _ _ _ _ _ _ _
    refine z_if_neT rfl (by decide) (by decide) ?_
    refine z_aload rfl rfl ?_
    refine z_getR (r := 83) rfl rfl (hRr _ rm_50_58 (by decide)) ?_
    refine z_iload rfl rfl ?_
    refine z_iald (v := (-6)) rfl rfl (by decide) (by decide) ((e83.trans (by rw [hso]; rfl))) ?_
    refine z_pushI (z := (-1)) rfl rfl ?_
    refine z_icmp_neT rfl (by decide) (by decide) (by decide) ?_
    refine z_aload rfl rfl ?_
    refine z_getR (r := 83) rfl rfl (hRr _ rm_50_58 (by decide)) ?_
    refine z_iload rfl rfl ?_
    refine z_iald (v := (-6)) rfl rfl (by decide) (by decide) ((e83.trans (by rw [hso]; rfl))) ?_
    refine z_if_ltT rfl (by decide) (by decide) ?_
    refine z_iload rfl rfl ?_
    refine z_pushI (z := 0) rfl rfl ?_
    refine z_aload rfl rfl ?_
    refine z_getR (r := 84) rfl rfl (hRr _ rm_50_59 (by decide)) ?_
    refine z_iload rfl rfl ?_
    refine z_iald (v := J 44 3) rfl rfl (by decide) (by decide) (s7) ?_
    refine z_pushI (z := 1) rfl rfl ?_
    refine z_isub (e := (J 44 3) - 1) rfl rfl ?_
    refine z_callSi (As := [_, _, _]) (le := [some _, some _, some _]) rfl rfl (Nat.le_of_ble_eq_true rfl) (Nat.le_of_ble_eq_true rfl) rfl ?_
    refine z_iload rfl rfl ?_
    refine z_iload rfl rfl ?_
    refine z_icmp_ltT rfl (by omega) (by decide) (by omega) ?_
    refine z_pushI (z := 0) rfl rfl ?_
    refine z_bret rfl rfl (by decide) ?_
    show zW _ _ _ _ _ _ _ _ _ _
    refine z_if_eqT rfl (by decide) (by decide) ?_
    refine z_pushI (z := (-13)) rfl rfl ?_
    refine z_iret rfl rfl ?_
    show zW _ _ _ _ _ _ _ _ _ _
    refine z_istore rfl rfl ?_
    refine z_iload rfl rfl ?_
    refine z_if_geF rfl (by decide) (by decide) ?_
    refine z_iload rfl rfl ?_
    refine z_iret rfl rfl ?_
    refine ⟨?_, ?_⟩
    · first | rfl | exact congrArg (fun v => some (zi v)) (by omega) | (exfalso; omega)
    · exact hr
  · refine z_iload rfl rfl ?_
    refine z_aload rfl rfl ?_
    refine z_getI (v := J 44 3) rfl rfl (rfl) ?_
    refine z_icmp_ge rfl (by omega) (by omega) (fun h2 => ?_) (fun h2 => ?_)
    · refine z_pushI (z := (-13)) rfl rfl ?_
      refine z_iret rfl rfl ?_
      show zW _ _ _ _ _ _ _ _ _ _
      refine z_istore rfl rfl ?_
      refine z_iload rfl rfl ?_
      refine z_if_geF rfl (by decide) (by decide) ?_
      refine z_iload rfl rfl ?_
      refine z_iret rfl rfl ?_
      refine ⟨_, rfl, ?_⟩
      show zW _ _ _ _ [some (.ref 50), some (zi 3), some (zi i), some (zl v), none, none, none] _ _ _ _ _
      refine z_aload rfl rfl ?_
      refine z_iload rfl rfl ?_
      refine z_iload rfl rfl ?_
      refine z_callVi (As := [_, _]) (le := [some _, some _, some _]) rfl rfl rfl (Nat.le_of_ble_eq_true rfl) (Nat.le_of_ble_eq_true rfl) rfl ?_
      refine z_iload rfl rfl ?_
      refine z_callSi (As := [_]) (le := [some _]) rfl rfl (Nat.le_of_ble_eq_true rfl) (Nat.le_of_ble_eq_true rfl) rfl ?_
      refine z_iload rfl rfl ?_
      refine z_pushI (z := 0) rfl rfl ?_
      refine z_pushI (z := 5) rfl rfl ?_
      refine z_callSi (As := [_, _, _]) (le := [some _, some _, some _]) rfl rfl (Nat.le_of_ble_eq_true rfl) (Nat.le_of_ble_eq_true rfl) rfl ?_
      refine z_iload rfl rfl ?_
      refine z_iload rfl rfl ?_
      refine z_icmp_ltF rfl (by decide) (by decide) (by decide) ?_
      refine z_iload rfl rfl ?_
      refine z_iload rfl rfl ?_
      refine z_icmp_gtF rfl (by decide) (by decide) (by decide) ?_
      refine z_pushI (z := 1) rfl rfl ?_
      refine z_goto rfl ?_
      refine z_bret rfl rfl (by decide) ?_
      show zW _ _ _ _ _ _ _ _ _ _
      refine z_bret rfl rfl (by decide) ?_
      show zW _ _ _ _ _ _ _ _ _ _
      refine z_if_neT rfl (by decide) (by decide) ?_
      refine z_aload rfl rfl ?_
      refine z_getR (r := 83) rfl rfl (hRr _ rm_50_58 (by decide)) ?_
      refine z_iload rfl rfl ?_
      refine z_iald (v := (-6)) rfl rfl (by decide) (by decide) ((e83.trans (by rw [hso]; rfl))) ?_
      refine z_pushI (z := (-1)) rfl rfl ?_
      refine z_icmp_neT rfl (by decide) (by decide) (by decide) ?_
      refine z_aload rfl rfl ?_
      refine z_getR (r := 83) rfl rfl (hRr _ rm_50_58 (by decide)) ?_
      refine z_iload rfl rfl ?_
      refine z_iald (v := (-6)) rfl rfl (by decide) (by decide) ((e83.trans (by rw [hso]; rfl))) ?_
      refine z_if_ltT rfl (by decide) (by decide) ?_
      refine z_iload rfl rfl ?_
      refine z_pushI (z := 0) rfl rfl ?_
      refine z_aload rfl rfl ?_
      refine z_getR (r := 84) rfl rfl (hRr _ rm_50_59 (by decide)) ?_
      refine z_iload rfl rfl ?_
      refine z_iald (v := J 44 3) rfl rfl (by decide) (by decide) (s7) ?_
      refine z_pushI (z := 1) rfl rfl ?_
      refine z_isub (e := (J 44 3) - 1) rfl rfl ?_
      refine z_callSi (As := [_, _, _]) (le := [some _, some _, some _]) rfl rfl (Nat.le_of_ble_eq_true rfl) (Nat.le_of_ble_eq_true rfl) rfl ?_
      refine z_iload rfl rfl ?_
      refine z_iload rfl rfl ?_
      refine z_icmp_ltF rfl (by omega) (by decide) (by omega) ?_
      refine z_iload rfl rfl ?_
      refine z_iload rfl rfl ?_
      refine z_icmp_gtT rfl (by omega) (by omega) (by omega) ?_
      refine z_pushI (z := 0) rfl rfl ?_
      refine z_bret rfl rfl (by decide) ?_
      show zW _ _ _ _ _ _ _ _ _ _
      refine z_if_eqT rfl (by decide) (by decide) ?_
      refine z_pushI (z := (-13)) rfl rfl ?_
      refine z_iret rfl rfl ?_
      show zW _ _ _ _ _ _ _ _ _ _
      refine z_istore rfl rfl ?_
      refine z_iload rfl rfl ?_
      refine z_if_geF rfl (by decide) (by decide) ?_
      refine z_iload rfl rfl ?_
      refine z_iret rfl rfl ?_
      refine ⟨?_, ?_⟩
      · first | rfl | exact congrArg (fun v => some (zi v)) (by omega) | (exfalso; omega)
      · exact hr
    · refine z_pushI (z := 0) rfl rfl ?_
      refine z_goto rfl ?_
      refine z_iret rfl rfl ?_
      show zW _ _ _ _ _ _ _ _ _ _
      refine z_istore rfl rfl ?_
      refine z_iload rfl rfl ?_
      refine z_if_geT rfl (by decide) (by decide) ?_
      refine z_aload rfl rfl ?_
      refine z_getR (r := 37) rfl rfl (hR _ rm_0_11) ?_
      refine z_iload rfl rfl ?_
      refine z_aald (r := 44) rfl rfl (by decide) (by decide) (hR _ rm_37_3) ?_
      refine z_iload rfl rfl ?_
      refine z_lload rfl rfl ?_
      refine z_callVi (As := [_, _]) (le := [some _, some _, some _, none]) rfl rfl rfl (Nat.le_of_ble_eq_true rfl) (Nat.le_of_ble_eq_true rfl) rfl ?_
      refine z_iload rfl rfl ?_
      refine z_if_ltF rfl (by omega) (by omega) ?_
      refine z_iload rfl rfl ?_
      refine z_aload rfl rfl ?_
      refine z_getI (v := J 44 3) rfl rfl (rfl) ?_
      refine z_icmp_geF rfl (by omega) (by omega) (by omega) ?_
      refine z_aload rfl rfl ?_
      refine z_getR (r := 45) rfl rfl (hR _ rm_44_4) ?_
      refine z_iload rfl rfl ?_
      refine z_aload rfl rfl ?_
      refine z_lload rfl rfl ?_
      refine z_callVi (As := [_]) (le := [some _, some _, none]) rfl rfl rfl (Nat.le_of_ble_eq_true rfl) (Nat.le_of_ble_eq_true rfl) rfl ?_
      refine z_aload rfl rfl ?_
      refine z_getI (v := 4) rfl rfl (hso) ?_
      refine z_swI (tg := 54) rfl (by decide) (T := [((0 : Int), 40), ((1 : Int), 45), ((2 : Int), 50), ((3 : Int), 66), ((4 : Int), 54)]) rfl (by decide) ?_
      refine z_lload rfl rfl ?_
      refine z_pushL (z := 0) rfl rfl ?_
      refine z_lcmp_eq rfl rfl (by omega) (by omega) (fun h3 => ?_) (fun h3 => ?_)
      · refine z_pushL (z := 0) rfl rfl ?_
        refine z_lret rfl rfl ?_
        show zW _ _ _ _ _ _ _ _ _ _
        refine z_last (e := 0) rfl rfl (by decide) (by omega) rfl ?_
        refine z_vret rfl rfl ?_
        show zW _ _ _ _ _ _ _ _ _ _
        refine z_pushI (z := 1) rfl rfl ?_
        refine z_iret rfl rfl ?_
        refine ⟨_, rfl, ?_⟩
        show zW _ _ _ _ [some (.ref 50), some (zi 3), some (zi i), some (zl v), none, none, none] _ _ _ _ _
        refine z_aload rfl rfl ?_
        refine z_iload rfl rfl ?_
        refine z_iload rfl rfl ?_
        refine z_callVi (As := [_, _]) (le := [some _, some _, some _]) rfl rfl rfl (Nat.le_of_ble_eq_true rfl) (Nat.le_of_ble_eq_true rfl) rfl ?_
        refine z_iload rfl rfl ?_
        refine z_callSi (As := [_]) (le := [some _]) rfl rfl (Nat.le_of_ble_eq_true rfl) (Nat.le_of_ble_eq_true rfl) rfl ?_
        refine z_iload rfl rfl ?_
        refine z_pushI (z := 0) rfl rfl ?_
        refine z_pushI (z := 5) rfl rfl ?_
        refine z_callSi (As := [_, _, _]) (le := [some _, some _, some _]) rfl rfl (Nat.le_of_ble_eq_true rfl) (Nat.le_of_ble_eq_true rfl) rfl ?_
        refine z_iload rfl rfl ?_
        refine z_iload rfl rfl ?_
        refine z_icmp_ltF rfl (by decide) (by decide) (by decide) ?_
        refine z_iload rfl rfl ?_
        refine z_iload rfl rfl ?_
        refine z_icmp_gtF rfl (by decide) (by decide) (by decide) ?_
        refine z_pushI (z := 1) rfl rfl ?_
        refine z_goto rfl ?_
        refine z_bret rfl rfl (by decide) ?_
        show zW _ _ _ _ _ _ _ _ _ _
        refine z_bret rfl rfl (by decide) ?_
        show zW _ _ _ _ _ _ _ _ _ _
        refine z_if_neT rfl (by decide) (by decide) ?_
        refine z_aload rfl rfl ?_
        refine z_getR (r := 83) rfl rfl (hRr _ rm_50_58 (by decide)) ?_
        refine z_iload rfl rfl ?_
        refine z_iald (v := (-6)) rfl rfl (by decide) (by decide) ((e83.trans (by rw [hso]; rfl))) ?_
        refine z_pushI (z := (-1)) rfl rfl ?_
        refine z_icmp_neT rfl (by decide) (by decide) (by decide) ?_
        refine z_aload rfl rfl ?_
        refine z_getR (r := 83) rfl rfl (hRr _ rm_50_58 (by decide)) ?_
        refine z_iload rfl rfl ?_
        refine z_iald (v := (-6)) rfl rfl (by decide) (by decide) ((e83.trans (by rw [hso]; rfl))) ?_
        refine z_if_ltT rfl (by decide) (by decide) ?_
        refine z_iload rfl rfl ?_
        refine z_pushI (z := 0) rfl rfl ?_
        refine z_aload rfl rfl ?_
        refine z_getR (r := 84) rfl rfl (hRr _ rm_50_59 (by decide)) ?_
        refine z_iload rfl rfl ?_
        refine z_iald (v := J 44 3) rfl rfl (by decide) (by decide) (s7) ?_
        refine z_pushI (z := 1) rfl rfl ?_
        refine z_isub (e := (J 44 3) - 1) rfl rfl ?_
        refine z_callSi (As := [_, _, _]) (le := [some _, some _, some _]) rfl rfl (Nat.le_of_ble_eq_true rfl) (Nat.le_of_ble_eq_true rfl) rfl ?_
        refine z_iload rfl rfl ?_
        refine z_iload rfl rfl ?_
        refine z_icmp_ltF rfl (by omega) (by decide) (by omega) ?_
        refine z_iload rfl rfl ?_
        refine z_iload rfl rfl ?_
        refine z_icmp_gtF rfl (by omega) (by omega) (by omega) ?_
        refine z_pushI (z := 1) rfl rfl ?_
        refine z_goto rfl ?_
        refine z_bret rfl rfl (by decide) ?_
        show zW _ _ _ _ _ _ _ _ _ _
        refine z_if_eqF rfl (by decide) (by decide) ?_
        refine z_pushI (z := 0) rfl rfl ?_
        refine z_goto rfl ?_
        refine z_iret rfl rfl ?_
        show zW _ _ _ _ _ _ _ _ _ _
        refine z_istore rfl rfl ?_
        refine z_iload rfl rfl ?_
        refine z_if_geT rfl (by decide) (by decide) ?_
        refine z_pushI (z := (-2)) rfl rfl ?_
        refine z_aload rfl rfl ?_
        refine z_getR (r := 83) rfl rfl (hRr _ rm_50_58 (by decide)) ?_
        refine z_iload rfl rfl ?_
        refine z_iald (v := (-6)) rfl rfl (by decide) (by decide) ((e83.trans (by rw [hso]; rfl))) ?_
        refine z_isub (e := 4) rfl rfl ?_
        refine z_istore rfl rfl ?_
        refine z_aload rfl rfl ?_
        refine z_getR (r := 85) rfl rfl (hRr _ rm_50_60 (by decide)) ?_
        refine z_pushI (z := 60) rfl rfl ?_
        refine z_iload rfl rfl ?_
        refine z_imul (e := 180) rfl rfl ?_
        refine z_iload rfl rfl ?_
        refine z_iadd (e := 180 + i) rfl rfl ?_
        refine z_iload rfl rfl ?_
        refine z_if_neT rfl (by decide) (by decide) ?_
        refine z_iload rfl rfl ?_
        refine z_pushI (z := 1) rfl rfl ?_
        refine z_icmp_neT rfl (by decide) (by decide) (by decide) ?_
        refine z_iload rfl rfl ?_
        refine z_pushI (z := 2) rfl rfl ?_
        refine z_icmp_neT rfl (by decide) (by decide) (by decide) ?_
        refine z_iload rfl rfl ?_
        refine z_pushI (z := 3) rfl rfl ?_
        refine z_icmp_neT rfl (by decide) (by decide) (by decide) ?_
        refine z_lload rfl rfl ?_
        refine z_pushL (z := 0) rfl rfl ?_
        refine z_lcmp_eq rfl rfl (by omega) (by omega) (fun h4 => ?_) (fun h4 => ?_)
        · refine z_pushL (z := 0) rfl rfl ?_
          refine z_last (e := 0) rfl rfl (by decide) (by omega) rfl ?_
          refine z_pushI (z := 1) rfl rfl ?_
          refine z_iret rfl rfl ?_
          refine ⟨?_, ?_⟩
          · first | rfl | exact congrArg (fun v => some (zi v)) (by omega) | (exfalso; omega)
          · have hk := (zK_r (k := (kL [] [])) (A := J))
            have hkm := (zK_x (a := 85) (x := 180 + i) (v := 0) (zK_x (a := 45) (x := i) (v := 0) (zK_r (k := (kL [45, 85] [])) (A := M)) rfl) rfl)
            exact ⟨hR, hG, RelY_k hk (by repeat' constructor) (fun p => by repeat' constructor) hY, RelD_k hk (by repeat' constructor) (fun p => by repeat' constructor) hD, RelP_k hk (by repeat' constructor) (fun p => by repeat' constructor) hP, RelC_k hk (by repeat' constructor) (fun p => by repeat' constructor) hC, RelA_k hk (by repeat' constructor) (fun p => by repeat' constructor) hAc, (RelS_one (J := J) (M := M) (c := 3) (fun t t1 t2 te => by have q : t = 0 ∨ t = 1 ∨ t = 2 ∨ t = 3 ∨ t = 4 ∨ t = 5 := (by omega); rcases q with rfl | rfl | rfl | rfl | rfl | rfl <;> first | exact absurd rfl te | exact ⟨fun j => rfl, rfl, rfl⟩) (fun t t1 t2 te => by have q : t = 0 ∨ t = 1 ∨ t = 2 ∨ t = 3 ∨ t = 4 ∨ t = 5 := (by omega); rcases q with rfl | rfl | rfl | rfl | rfl | rfl <;> first | exact absurd rfl te | exact ⟨fun j => rfl, fun j j1 j2 => (zU_x (by omega)).trans (zU_n (by decide))⟩) rfl (show RelS1 _ _ _ from ⟨(hS 3 (by decide) (by decide)).1, (hS 3 (by decide) (by decide)).2.1, s3, s4, (hS 3 (by decide) (by decide)).2.2.2.2.1, fun _ => ⟨s7.symm, fun k k1 k2 => by show (if k = i then 0 else M 45 k) = (if 180 + k = 180 + i then 0 else M 85 (180 + k)); by_cases e : k = i; rw [if_pos e, if_pos (by omega)]; rw [if_neg e, if_neg (by omega)]; exact s8 k k1 k2, (fun hq => absurd (Eq.trans (Eq.symm hq) hso) (by decide))⟩⟩) hS), RelT_k hk (by repeat' constructor) (fun p => by repeat' constructor) hTp, RelX_k hk (by repeat' constructor) (fun p => by repeat' constructor) hX, RelW_k hk ⟨rfl, rfl⟩ trivial hW⟩
        · refine z_pushL (z := 1) rfl rfl ?_
          refine z_goto rfl ?_
          refine z_last (e := 1) rfl rfl (by decide) (by omega) rfl ?_
          refine z_pushI (z := 1) rfl rfl ?_
          refine z_iret rfl rfl ?_
          refine ⟨?_, ?_⟩
          · first | rfl | exact congrArg (fun v => some (zi v)) (by omega) | (exfalso; omega)
          · exfalso
            omega
      · refine z_pushL (z := 1) rfl rfl ?_
        refine z_goto rfl ?_
        refine z_lret rfl rfl ?_
        show zW _ _ _ _ _ _ _ _ _ _
        refine z_last (e := 1) rfl rfl (by decide) (by omega) rfl ?_
        refine z_vret rfl rfl ?_
        show zW _ _ _ _ _ _ _ _ _ _
        refine z_pushI (z := 1) rfl rfl ?_
        refine z_iret rfl rfl ?_
        refine ⟨_, rfl, ?_⟩
        show zW _ _ _ _ [some (.ref 50), some (zi 3), some (zi i), some (zl v), none, none, none] _ _ _ _ _
        refine z_aload rfl rfl ?_
        refine z_iload rfl rfl ?_
        refine z_iload rfl rfl ?_
        refine z_callVi (As := [_, _]) (le := [some _, some _, some _]) rfl rfl rfl (Nat.le_of_ble_eq_true rfl) (Nat.le_of_ble_eq_true rfl) rfl ?_
        refine z_iload rfl rfl ?_
        refine z_callSi (As := [_]) (le := [some _]) rfl rfl (Nat.le_of_ble_eq_true rfl) (Nat.le_of_ble_eq_true rfl) rfl ?_
        refine z_iload rfl rfl ?_
        refine z_pushI (z := 0) rfl rfl ?_
        refine z_pushI (z := 5) rfl rfl ?_
        refine z_callSi (As := [_, _, _]) (le := [some _, some _, some _]) rfl rfl (Nat.le_of_ble_eq_true rfl) (Nat.le_of_ble_eq_true rfl) rfl ?_
        refine z_iload rfl rfl ?_
        refine z_iload rfl rfl ?_
        refine z_icmp_ltF rfl (by decide) (by decide) (by decide) ?_
        refine z_iload rfl rfl ?_
        refine z_iload rfl rfl ?_
        refine z_icmp_gtF rfl (by decide) (by decide) (by decide) ?_
        refine z_pushI (z := 1) rfl rfl ?_
        refine z_goto rfl ?_
        refine z_bret rfl rfl (by decide) ?_
        show zW _ _ _ _ _ _ _ _ _ _
        refine z_bret rfl rfl (by decide) ?_
        show zW _ _ _ _ _ _ _ _ _ _
        refine z_if_neT rfl (by decide) (by decide) ?_
        refine z_aload rfl rfl ?_
        refine z_getR (r := 83) rfl rfl (hRr _ rm_50_58 (by decide)) ?_
        refine z_iload rfl rfl ?_
        refine z_iald (v := (-6)) rfl rfl (by decide) (by decide) ((e83.trans (by rw [hso]; rfl))) ?_
        refine z_pushI (z := (-1)) rfl rfl ?_
        refine z_icmp_neT rfl (by decide) (by decide) (by decide) ?_
        refine z_aload rfl rfl ?_
        refine z_getR (r := 83) rfl rfl (hRr _ rm_50_58 (by decide)) ?_
        refine z_iload rfl rfl ?_
        refine z_iald (v := (-6)) rfl rfl (by decide) (by decide) ((e83.trans (by rw [hso]; rfl))) ?_
        refine z_if_ltT rfl (by decide) (by decide) ?_
        refine z_iload rfl rfl ?_
        refine z_pushI (z := 0) rfl rfl ?_
        refine z_aload rfl rfl ?_
        refine z_getR (r := 84) rfl rfl (hRr _ rm_50_59 (by decide)) ?_
        refine z_iload rfl rfl ?_
        refine z_iald (v := J 44 3) rfl rfl (by decide) (by decide) (s7) ?_
        refine z_pushI (z := 1) rfl rfl ?_
        refine z_isub (e := (J 44 3) - 1) rfl rfl ?_
        refine z_callSi (As := [_, _, _]) (le := [some _, some _, some _]) rfl rfl (Nat.le_of_ble_eq_true rfl) (Nat.le_of_ble_eq_true rfl) rfl ?_
        refine z_iload rfl rfl ?_
        refine z_iload rfl rfl ?_
        refine z_icmp_ltF rfl (by omega) (by decide) (by omega) ?_
        refine z_iload rfl rfl ?_
        refine z_iload rfl rfl ?_
        refine z_icmp_gtF rfl (by omega) (by omega) (by omega) ?_
        refine z_pushI (z := 1) rfl rfl ?_
        refine z_goto rfl ?_
        refine z_bret rfl rfl (by decide) ?_
        show zW _ _ _ _ _ _ _ _ _ _
        refine z_if_eqF rfl (by decide) (by decide) ?_
        refine z_pushI (z := 0) rfl rfl ?_
        refine z_goto rfl ?_
        refine z_iret rfl rfl ?_
        show zW _ _ _ _ _ _ _ _ _ _
        refine z_istore rfl rfl ?_
        refine z_iload rfl rfl ?_
        refine z_if_geT rfl (by decide) (by decide) ?_
        refine z_pushI (z := (-2)) rfl rfl ?_
        refine z_aload rfl rfl ?_
        refine z_getR (r := 83) rfl rfl (hRr _ rm_50_58 (by decide)) ?_
        refine z_iload rfl rfl ?_
        refine z_iald (v := (-6)) rfl rfl (by decide) (by decide) ((e83.trans (by rw [hso]; rfl))) ?_
        refine z_isub (e := 4) rfl rfl ?_
        refine z_istore rfl rfl ?_
        refine z_aload rfl rfl ?_
        refine z_getR (r := 85) rfl rfl (hRr _ rm_50_60 (by decide)) ?_
        refine z_pushI (z := 60) rfl rfl ?_
        refine z_iload rfl rfl ?_
        refine z_imul (e := 180) rfl rfl ?_
        refine z_iload rfl rfl ?_
        refine z_iadd (e := 180 + i) rfl rfl ?_
        refine z_iload rfl rfl ?_
        refine z_if_neT rfl (by decide) (by decide) ?_
        refine z_iload rfl rfl ?_
        refine z_pushI (z := 1) rfl rfl ?_
        refine z_icmp_neT rfl (by decide) (by decide) (by decide) ?_
        refine z_iload rfl rfl ?_
        refine z_pushI (z := 2) rfl rfl ?_
        refine z_icmp_neT rfl (by decide) (by decide) (by decide) ?_
        refine z_iload rfl rfl ?_
        refine z_pushI (z := 3) rfl rfl ?_
        refine z_icmp_neT rfl (by decide) (by decide) (by decide) ?_
        refine z_lload rfl rfl ?_
        refine z_pushL (z := 0) rfl rfl ?_
        refine z_lcmp_eq rfl rfl (by omega) (by omega) (fun h4 => ?_) (fun h4 => ?_)
        · refine z_pushL (z := 0) rfl rfl ?_
          refine z_last (e := 0) rfl rfl (by decide) (by omega) rfl ?_
          refine z_pushI (z := 1) rfl rfl ?_
          refine z_iret rfl rfl ?_
          refine ⟨?_, ?_⟩
          · first | rfl | exact congrArg (fun v => some (zi v)) (by omega) | (exfalso; omega)
          · exfalso
            omega
        · refine z_pushL (z := 1) rfl rfl ?_
          refine z_goto rfl ?_
          refine z_last (e := 1) rfl rfl (by decide) (by omega) rfl ?_
          refine z_pushI (z := 1) rfl rfl ?_
          refine z_iret rfl rfl ?_
          refine ⟨?_, ?_⟩
          · first | rfl | exact congrArg (fun v => some (zi v)) (by omega) | (exfalso; omega)
          · have hk := (zK_r (k := (kL [] [])) (A := J))
            have hkm := (zK_x (a := 85) (x := 180 + i) (v := 1) (zK_x (a := 45) (x := i) (v := 1) (zK_r (k := (kL [45, 85] [])) (A := M)) rfl) rfl)
            exact ⟨hR, hG, RelY_k hk (by repeat' constructor) (fun p => by repeat' constructor) hY, RelD_k hk (by repeat' constructor) (fun p => by repeat' constructor) hD, RelP_k hk (by repeat' constructor) (fun p => by repeat' constructor) hP, RelC_k hk (by repeat' constructor) (fun p => by repeat' constructor) hC, RelA_k hk (by repeat' constructor) (fun p => by repeat' constructor) hAc, (RelS_one (J := J) (M := M) (c := 3) (fun t t1 t2 te => by have q : t = 0 ∨ t = 1 ∨ t = 2 ∨ t = 3 ∨ t = 4 ∨ t = 5 := (by omega); rcases q with rfl | rfl | rfl | rfl | rfl | rfl <;> first | exact absurd rfl te | exact ⟨fun j => rfl, rfl, rfl⟩) (fun t t1 t2 te => by have q : t = 0 ∨ t = 1 ∨ t = 2 ∨ t = 3 ∨ t = 4 ∨ t = 5 := (by omega); rcases q with rfl | rfl | rfl | rfl | rfl | rfl <;> first | exact absurd rfl te | exact ⟨fun j => rfl, fun j j1 j2 => (zU_x (by omega)).trans (zU_n (by decide))⟩) rfl (show RelS1 _ _ _ from ⟨(hS 3 (by decide) (by decide)).1, (hS 3 (by decide) (by decide)).2.1, s3, s4, (hS 3 (by decide) (by decide)).2.2.2.2.1, fun _ => ⟨s7.symm, fun k k1 k2 => by show (if k = i then 1 else M 45 k) = (if 180 + k = 180 + i then 1 else M 85 (180 + k)); by_cases e : k = i; rw [if_pos e, if_pos (by omega)]; rw [if_neg e, if_neg (by omega)]; exact s8 k k1 k2, (fun hq => absurd (Eq.trans (Eq.symm hq) hso) (by decide))⟩⟩) hS), RelT_k hk (by repeat' constructor) (fun p => by repeat' constructor) hTp, RelX_k hk (by repeat' constructor) (fun p => by repeat' constructor) hX, RelW_k hk ⟨rfl, rfl⟩ trivial hW⟩
theorem st_element_40 {X : Nat × (Nat → Int32)} {d : Nat} {J M : zA} {R : zR} {i : Int} (hr : Rel X J M R) (hi : -2147483648 ≤ i ∧ i < 2147483648) (hh : J 46 0 = 0) : zW X (d + 20) 139 0 (gEn 139 [(.ref 0), (zi 4), (zi i)]) [] J M R (stL X (d + 20) 253 [(zi 4), (zi i)]) := by
  have hr0 := hr
  obtain ⟨hR, hG, hY, hD, hP, hC, hAc, hS, hTp, hX, hW⟩ := hr0
  have hRr : zRoR R := zRoR_of hR
  have hA0 := hAc
  obtain ⟨a1, a2, a3, a4, a5, a6⟩ := hA0
  have e83 : J 83 4 = -1 := (hS 4 (by decide) (by decide)).1.symm.trans (cH_0 hh)
  have s3 : 0 ≤ J 46 2 ∧ J 46 2 ≤ 4 := (hS 4 (by decide) (by decide)).2.2.1
  have s4 : 0 ≤ J 46 3 ∧ J 46 3 ≤ 60 := (hS 4 (by decide) (by decide)).2.2.2.1
  show zW _ _ _ _ [some (.ref 0), some (zi 4), some (zi i)] _ _ _ _ _
  refine z_iload rfl rfl ?_
  refine z_callSi (As := [_]) (le := [some _]) rfl rfl (Nat.le_of_ble_eq_true rfl) (Nat.le_of_ble_eq_true rfl) rfl ?_
  refine z_iload rfl rfl ?_
  refine z_if_ltF rfl (by decide) (by decide) ?_
  refine z_iload rfl rfl ?_
  refine z_pushI (z := 6) rfl rfl ?_
  refine z_icmp_geF rfl (by decide) (by decide) (by decide) ?_
  refine z_pushI (z := 1) rfl rfl ?_
  refine z_goto rfl ?_
  refine z_bret rfl rfl (by decide) ?_
  show zW _ _ _ _ _ _ _ _ _ _
  refine z_if_eqF rfl (by decide) (by decide) ?_
  refine z_aload rfl rfl ?_
  refine z_getR (r := 37) rfl rfl (hR _ rm_0_11) ?_
  refine z_iload rfl rfl ?_
  refine z_aald (r := 46) rfl rfl (by decide) (by decide) (hR _ rm_37_4) ?_
  refine z_iload rfl rfl ?_
  refine z_callVi (As := [_]) (le := [some _, some _]) rfl rfl rfl (Nat.le_of_ble_eq_true rfl) (Nat.le_of_ble_eq_true rfl) rfl ?_
  refine z_aload rfl rfl ?_
  refine z_getI (v := 0) rfl rfl (hh) ?_
  refine z_if_neF rfl (by decide) (by decide) ?_
  refine z_pushI (z := (-11)) rfl rfl ?_
  refine z_iret rfl rfl ?_
  show zW _ _ _ _ _ _ _ _ _ _
  refine z_if_geF rfl (by decide) (by decide) ?_
  refine z_pushL (z := (-9223372036854775808)) rfl rfl ?_
  refine z_lret rfl rfl ?_
  refine ⟨_, rfl, ?_⟩
  show zW _ _ _ _ [some (.ref 50), some (zi 4), some (zi i)] _ _ _ _ _
  refine z_aload rfl rfl ?_
  refine z_iload rfl rfl ?_
  refine z_iload rfl rfl ?_
  refine z_callVi (As := [_, _]) (le := [some _, some _, some _]) rfl rfl rfl (Nat.le_of_ble_eq_true rfl) (Nat.le_of_ble_eq_true rfl) rfl ?_
  refine z_iload rfl rfl ?_
  refine z_callSi (As := [_]) (le := [some _]) rfl rfl (Nat.le_of_ble_eq_true rfl) (Nat.le_of_ble_eq_true rfl) rfl ?_
  refine z_iload rfl rfl ?_
  refine z_pushI (z := 0) rfl rfl ?_
  refine z_pushI (z := 5) rfl rfl ?_
  refine z_callSi (As := [_, _, _]) (le := [some _, some _, some _]) rfl rfl (Nat.le_of_ble_eq_true rfl) (Nat.le_of_ble_eq_true rfl) rfl ?_
  refine z_iload rfl rfl ?_
  refine z_iload rfl rfl ?_
  refine z_icmp_ltF rfl (by decide) (by decide) (by decide) ?_
  refine z_iload rfl rfl ?_
  refine z_iload rfl rfl ?_
  refine z_icmp_gtF rfl (by decide) (by decide) (by decide) ?_
  refine z_pushI (z := 1) rfl rfl ?_
  refine z_goto rfl ?_
  refine z_bret rfl rfl (by decide) ?_
  show zW _ _ _ _ _ _ _ _ _ _
  refine z_bret rfl rfl (by decide) ?_
  show zW _ _ _ _ _ _ _ _ _ _
  refine z_if_neT rfl (by decide) (by decide) ?_
  refine z_aload rfl rfl ?_
  refine z_getR (r := 83) rfl rfl (hRr _ rm_50_58 (by decide)) ?_
  refine z_iload rfl rfl ?_
  refine z_iald (v := (-1)) rfl rfl (by decide) (by decide) (e83) ?_
  refine z_pushI (z := (-1)) rfl rfl ?_
  refine z_icmp_neF rfl (by decide) (by decide) (by decide) ?_
  refine z_pushI (z := (-11)) rfl rfl ?_
  refine z_iret rfl rfl ?_
  show zW _ _ _ _ _ _ _ _ _ _
  refine z_if_geF rfl (by decide) (by decide) ?_
  refine z_pushL (z := (-9223372036854775808)) rfl rfl ?_
  refine z_goto rfl ?_
  refine z_lret rfl rfl ?_
  refine ⟨?_, ?_⟩
  · first | rfl | exact congrArg (fun v => some (zl v)) (by omega) | (exfalso; omega)
  · exact hr
theorem st_put_40 {X : Nat × (Nat → Int32)} {d : Nat} {J M : zA} {R : zR} {i v : Int} (hr : Rel X J M R) (hi : -2147483648 ≤ i ∧ i < 2147483648) (hv : -9223372036854775808 ≤ v ∧ v < 9223372036854775808) (hh : J 46 0 = 0) : zW X (d + 20) 138 0 (gEn 138 [(.ref 0), (zi 4), (zi i), (zl v)]) [] J M R (stP X (d + 20) 252 [(zi 4), (zi i), (zl v)]) := by
  have hr0 := hr
  obtain ⟨hR, hG, hY, hD, hP, hC, hAc, hS, hTp, hX, hW⟩ := hr0
  have hRr : zRoR R := zRoR_of hR
  have hA0 := hAc
  obtain ⟨a1, a2, a3, a4, a5, a6⟩ := hA0
  have e83 : J 83 4 = -1 := (hS 4 (by decide) (by decide)).1.symm.trans (cH_0 hh)
  have s3 : 0 ≤ J 46 2 ∧ J 46 2 ≤ 4 := (hS 4 (by decide) (by decide)).2.2.1
  have s4 : 0 ≤ J 46 3 ∧ J 46 3 ≤ 60 := (hS 4 (by decide) (by decide)).2.2.2.1
  show zW _ _ _ _ [some (.ref 0), some (zi 4), some (zi i), some (zl v), none, none] _ _ _ _ _
  refine z_iload rfl rfl ?_
  refine z_callSi (As := [_]) (le := [some _]) rfl rfl (Nat.le_of_ble_eq_true rfl) (Nat.le_of_ble_eq_true rfl) rfl ?_
  refine z_iload rfl rfl ?_
  refine z_if_ltF rfl (by decide) (by decide) ?_
  refine z_iload rfl rfl ?_
  refine z_pushI (z := 6) rfl rfl ?_
  refine z_icmp_geF rfl (by decide) (by decide) (by decide) ?_
  refine z_pushI (z := 1) rfl rfl ?_
  refine z_goto rfl ?_
  refine z_bret rfl rfl (by decide) ?_
  show zW _ _ _ _ _ _ _ _ _ _
  refine z_if_neT rfl (by decide) (by decide) ?_
  refine z_aload rfl rfl ?_
  refine z_getR (r := 37) rfl rfl (hR _ rm_0_11) ?_
  refine z_iload rfl rfl ?_
  refine z_aald (r := 46) rfl rfl (by decide) (by decide) (hR _ rm_37_4) ?_
  refine z_iload rfl rfl ?_
  refine z_callVi (As := [_]) (le := [some _, some _]) rfl rfl rfl (Nat.le_of_ble_eq_true rfl) (Nat.le_of_ble_eq_true rfl) rfl ?_
  refine z_aload rfl rfl ?_
  refine z_getI (v := 0) rfl rfl (hh) ?_
  refine z_if_neF rfl (by decide) (by decide) ?_
  refine z_pushI (z := (-11)) rfl rfl ?_
  refine z_iret rfl rfl ?_
  show zW _ _ _ _ _ _ _ _ _ _
  refine z_istore rfl rfl ?_
  refine z_iload rfl rfl ?_
  refine z_if_geF rfl (by decide) (by decide) ?_
  refine z_iload rfl rfl ?_
  refine z_iret rfl rfl ?_
  refine ⟨_, rfl, ?_⟩
  show zW _ _ _ _ [some (.ref 50), some (zi 4), some (zi i), some (zl v), none, none, none] _ _ _ _ _
  refine z_aload rfl rfl ?_
  refine z_iload rfl rfl ?_
  refine z_iload rfl rfl ?_
  refine z_callVi (As := [_, _]) (le := [some _, some _, some _]) rfl rfl rfl (Nat.le_of_ble_eq_true rfl) (Nat.le_of_ble_eq_true rfl) rfl ?_
  refine z_iload rfl rfl ?_
  refine z_callSi (As := [_]) (le := [some _]) rfl rfl (Nat.le_of_ble_eq_true rfl) (Nat.le_of_ble_eq_true rfl) rfl ?_
  refine z_iload rfl rfl ?_
  refine z_pushI (z := 0) rfl rfl ?_
  refine z_pushI (z := 5) rfl rfl ?_
  refine z_callSi (As := [_, _, _]) (le := [some _, some _, some _]) rfl rfl (Nat.le_of_ble_eq_true rfl) (Nat.le_of_ble_eq_true rfl) rfl ?_
  refine z_iload rfl rfl ?_
  refine z_iload rfl rfl ?_
  refine z_icmp_ltF rfl (by decide) (by decide) (by decide) ?_
  refine z_iload rfl rfl ?_
  refine z_iload rfl rfl ?_
  refine z_icmp_gtF rfl (by decide) (by decide) (by decide) ?_
  refine z_pushI (z := 1) rfl rfl ?_
  refine z_goto rfl ?_
  refine z_bret rfl rfl (by decide) ?_
  show zW _ _ _ _ _ _ _ _ _ _
  refine z_bret rfl rfl (by decide) ?_
  show zW _ _ _ _ _ _ _ _ _ _
  refine z_if_neT rfl (by decide) (by decide) ?_
  refine z_aload rfl rfl ?_
  refine z_getR (r := 83) rfl rfl (hRr _ rm_50_58 (by decide)) ?_
  refine z_iload rfl rfl ?_
  refine z_iald (v := (-1)) rfl rfl (by decide) (by decide) (e83) ?_
  refine z_pushI (z := (-1)) rfl rfl ?_
  refine z_icmp_neF rfl (by decide) (by decide) (by decide) ?_
  refine z_pushI (z := (-11)) rfl rfl ?_
  refine z_iret rfl rfl ?_
  show zW _ _ _ _ _ _ _ _ _ _
  refine z_istore rfl rfl ?_
  refine z_iload rfl rfl ?_
  refine z_if_geF rfl (by decide) (by decide) ?_
  refine z_iload rfl rfl ?_
  refine z_iret rfl rfl ?_
  refine ⟨?_, ?_⟩
  · first | rfl | exact congrArg (fun v => some (zi v)) (by omega) | (exfalso; omega)
  · exact hr
theorem st_element_41 {X : Nat × (Nat → Int32)} {d : Nat} {J M : zA} {R : zR} {i : Int} (hr : Rel X J M R) (hi : -2147483648 ≤ i ∧ i < 2147483648) (hh : J 46 0 = 1) : zW X (d + 20) 139 0 (gEn 139 [(.ref 0), (zi 4), (zi i)]) [] J M R (stL X (d + 20) 253 [(zi 4), (zi i)]) := by
  have hr0 := hr
  obtain ⟨hR, hG, hY, hD, hP, hC, hAc, hS, hTp, hX, hW⟩ := hr0
  have hRr : zRoR R := zRoR_of hR
  have hA0 := hAc
  obtain ⟨a1, a2, a3, a4, a5, a6⟩ := hA0
  have e83 : J 83 4 = J 46 1 := (hS 4 (by decide) (by decide)).1.symm.trans (cH_1 hh)
  have s3 : 0 ≤ J 46 2 ∧ J 46 2 ≤ 4 := (hS 4 (by decide) (by decide)).2.2.1
  have s4 : 0 ≤ J 46 3 ∧ J 46 3 ≤ 60 := (hS 4 (by decide) (by decide)).2.2.2.1
  have s5 : 0 ≤ J 46 1 ∧ J 46 1 < J 34 1 := (hS 4 (by decide) (by decide)).2.2.2.2.1 hh
  show zW _ _ _ _ [some (.ref 0), some (zi 4), some (zi i)] _ _ _ _ _
  refine z_iload rfl rfl ?_
  refine z_callSi (As := [_]) (le := [some _]) rfl rfl (Nat.le_of_ble_eq_true rfl) (Nat.le_of_ble_eq_true rfl) rfl ?_
  refine z_iload rfl rfl ?_
  refine z_if_ltF rfl (by decide) (by decide) ?_
  refine z_iload rfl rfl ?_
  refine z_pushI (z := 6) rfl rfl ?_
  refine z_icmp_geF rfl (by decide) (by decide) (by decide) ?_
  refine z_pushI (z := 1) rfl rfl ?_
  refine z_goto rfl ?_
  refine z_bret rfl rfl (by decide) ?_
  show zW _ _ _ _ _ _ _ _ _ _
  refine z_if_eqF rfl (by decide) (by decide) ?_
  refine z_aload rfl rfl ?_
  refine z_getR (r := 37) rfl rfl (hR _ rm_0_11) ?_
  refine z_iload rfl rfl ?_
  refine z_aald (r := 46) rfl rfl (by decide) (by decide) (hR _ rm_37_4) ?_
  refine z_iload rfl rfl ?_
  refine z_callVi (As := [_]) (le := [some _, some _]) rfl rfl rfl (Nat.le_of_ble_eq_true rfl) (Nat.le_of_ble_eq_true rfl) rfl ?_
  refine z_aload rfl rfl ?_
  refine z_getI (v := 1) rfl rfl (hh) ?_
  refine z_if_neT rfl (by decide) (by decide) ?_
  refine z_aload rfl rfl ?_
  refine z_getI (v := 1) rfl rfl (hh) ?_
  refine z_pushI (z := 2) rfl rfl ?_
  refine z_icmp_eqF rfl (by decide) (by decide) (by decide) ?_
  refine z_pushI (z := (-12)) rfl rfl ?_
  refine z_iret rfl rfl ?_
  show zW _ _ _ _ _ _ _ _ _ _
  refine z_if_geF rfl (by decide) (by decide) ?_
  refine z_pushL (z := (-9223372036854775808)) rfl rfl ?_
  refine z_lret rfl rfl ?_
  refine ⟨_, rfl, ?_⟩
  show zW _ _ _ _ [some (.ref 50), some (zi 4), some (zi i)] _ _ _ _ _
  refine z_aload rfl rfl ?_
  refine z_iload rfl rfl ?_
  refine z_iload rfl rfl ?_
  refine z_callVi (As := [_, _]) (le := [some _, some _, some _]) rfl rfl rfl (Nat.le_of_ble_eq_true rfl) (Nat.le_of_ble_eq_true rfl) rfl ?_
  refine z_iload rfl rfl ?_
  refine z_callSi (As := [_]) (le := [some _]) rfl rfl (Nat.le_of_ble_eq_true rfl) (Nat.le_of_ble_eq_true rfl) rfl ?_
  refine z_iload rfl rfl ?_
  refine z_pushI (z := 0) rfl rfl ?_
  refine z_pushI (z := 5) rfl rfl ?_
  refine z_callSi (As := [_, _, _]) (le := [some _, some _, some _]) rfl rfl (Nat.le_of_ble_eq_true rfl) (Nat.le_of_ble_eq_true rfl) rfl ?_
  refine z_iload rfl rfl ?_
  refine z_iload rfl rfl ?_
  refine z_icmp_ltF rfl (by decide) (by decide) (by decide) ?_
  refine z_iload rfl rfl ?_
  refine z_iload rfl rfl ?_
  refine z_icmp_gtF rfl (by decide) (by decide) (by decide) ?_
  refine z_pushI (z := 1) rfl rfl ?_
  refine z_goto rfl ?_
  refine z_bret rfl rfl (by decide) ?_
  show zW _ _ _ _ _ _ _ _ _ _
  refine z_bret rfl rfl (by decide) ?_
  show zW _ _ _ _ _ _ _ _ _ _
  refine z_if_neT rfl (by decide) (by decide) ?_
  refine z_aload rfl rfl ?_
  refine z_getR (r := 83) rfl rfl (hRr _ rm_50_58 (by decide)) ?_
  refine z_iload rfl rfl ?_
  refine z_iald (v := J 46 1) rfl rfl (by decide) (by decide) (e83) ?_
  refine z_pushI (z := (-1)) rfl rfl ?_
  refine z_icmp_ne rfl (by omega) (by decide) (fun h1 => ?_) (fun h1 => ?_)
  · refine z_aload rfl rfl ?_
    refine z_getR (r := 83) rfl rfl (hRr _ rm_50_58 (by decide)) ?_
    refine z_iload rfl rfl ?_
    refine z_iald (v := J 46 1) rfl rfl (by decide) (by decide) (e83) ?_
    refine z_if_lt rfl (by omega) (fun h2 => ?_) (fun h2 => ?_)
    · refine z_iload rfl rfl ?_
      refine z_pushI (z := 0) rfl rfl ?_
      refine z_aload rfl rfl ?_
      refine z_getR (r := 84) rfl rfl (hRr _ rm_50_59 (by decide)) ?_
      refine z_iload rfl rfl ?_
      refine z_iald (v := J 84 4) rfl rfl (by decide) (by decide) (rfl) ?_
      refine z_pushI (z := 1) rfl rfl ?_
      refine z_isub (e := (J 84 4) - 1) rfl rfl ?_
      refine z_callSi (As := [_, _, _]) (le := [some _, some _, some _]) rfl rfl (Nat.le_of_ble_eq_true rfl) (Nat.le_of_ble_eq_true rfl) rfl ?_
      refine z_iload rfl rfl ?_
      refine z_iload rfl rfl ?_
      refine z_icmp_lt rfl (by omega) (by decide) (fun h3 => ?_) (fun h3 => ?_)
      · refine z_pushI (z := 0) rfl rfl ?_
        refine z_bret rfl rfl (by decide) ?_
        show zW _ _ _ _ _ _ _ _ _ _
        refine z_if_eqT rfl (by decide) (by decide) ?_
        refine z_pushI (z := (-13)) rfl rfl ?_
        refine z_iret rfl rfl ?_
        show zW _ _ _ _ _ _ _ _ _ _
        refine z_if_geF rfl (by decide) (by decide) ?_
        refine z_pushL (z := (-9223372036854775808)) rfl rfl ?_
        refine z_goto rfl ?_
        refine z_lret rfl rfl ?_
        refine ⟨?_, ?_⟩
        · first | rfl | exact congrArg (fun v => some (zl v)) (by omega) | (exfalso; omega)
        · exact hr
      · refine z_iload rfl rfl ?_
        refine z_iload rfl rfl ?_
        refine z_icmp_gt rfl (by omega) (by omega) (fun h4 => ?_) (fun h4 => ?_)
        · refine z_pushI (z := 0) rfl rfl ?_
          refine z_bret rfl rfl (by decide) ?_
          show zW _ _ _ _ _ _ _ _ _ _
          refine z_if_eqT rfl (by decide) (by decide) ?_
          refine z_pushI (z := (-13)) rfl rfl ?_
          refine z_iret rfl rfl ?_
          show zW _ _ _ _ _ _ _ _ _ _
          refine z_if_geF rfl (by decide) (by decide) ?_
          refine z_pushL (z := (-9223372036854775808)) rfl rfl ?_
          refine z_goto rfl ?_
          refine z_lret rfl rfl ?_
          refine ⟨?_, ?_⟩
          · first | rfl | exact congrArg (fun v => some (zl v)) (by omega) | (exfalso; omega)
          · exact hr
        · refine z_pushI (z := 1) rfl rfl ?_
          refine z_goto rfl ?_
          refine z_bret rfl rfl (by decide) ?_
          show zW _ _ _ _ _ _ _ _ _ _
          refine z_if_eqF rfl (by decide) (by decide) ?_
          refine z_pushI (z := 0) rfl rfl ?_
          refine z_goto rfl ?_
          refine z_iret rfl rfl ?_
          show zW _ _ _ _ _ _ _ _ _ _
          refine z_if_geT rfl (by decide) (by decide) ?_
          refine z_aload rfl rfl ?_
          refine z_getR (r := 85) rfl rfl (hRr _ rm_50_60 (by decide)) ?_
          refine z_pushI (z := 60) rfl rfl ?_
          refine z_iload rfl rfl ?_
          refine z_imul (e := 240) rfl rfl ?_
          refine z_iload rfl rfl ?_
          refine z_iadd (e := 240 + i) rfl rfl ?_
          refine z_lald (v := M 85 (240 + i)) rfl rfl (by decide) (by omega) (rfl) ?_
          refine z_lret rfl rfl ?_
          refine ⟨?_, ?_⟩
          · first | rfl | exact congrArg (fun v => some (zl v)) (by omega) | (exfalso; omega)
          · exact hr
    · refine z_pushI (z := (-12)) rfl rfl ?_
      refine z_iret rfl rfl ?_
      show zW _ _ _ _ _ _ _ _ _ _
      refine z_if_geF rfl (by decide) (by decide) ?_
      refine z_pushL (z := (-9223372036854775808)) rfl rfl ?_
      refine z_goto rfl ?_
      refine z_lret rfl rfl ?_
      refine ⟨?_, ?_⟩
      · first | rfl | exact congrArg (fun v => some (zl v)) (by omega) | (exfalso; omega)
      · exact hr
  · refine z_pushI (z := (-11)) rfl rfl ?_
    refine z_iret rfl rfl ?_
    show zW _ _ _ _ _ _ _ _ _ _
    refine z_if_geF rfl (by decide) (by decide) ?_
    refine z_pushL (z := (-9223372036854775808)) rfl rfl ?_
    refine z_goto rfl ?_
    refine z_lret rfl rfl ?_
    refine ⟨?_, ?_⟩
    · first | rfl | exact congrArg (fun v => some (zl v)) (by omega) | (exfalso; omega)
    · exact hr
theorem st_put_41 {X : Nat × (Nat → Int32)} {d : Nat} {J M : zA} {R : zR} {i v : Int} (hr : Rel X J M R) (hi : -2147483648 ≤ i ∧ i < 2147483648) (hv : -9223372036854775808 ≤ v ∧ v < 9223372036854775808) (hh : J 46 0 = 1) : zW X (d + 20) 138 0 (gEn 138 [(.ref 0), (zi 4), (zi i), (zl v)]) [] J M R (stP X (d + 20) 252 [(zi 4), (zi i), (zl v)]) := by
  have hr0 := hr
  obtain ⟨hR, hG, hY, hD, hP, hC, hAc, hS, hTp, hX, hW⟩ := hr0
  have hRr : zRoR R := zRoR_of hR
  have hA0 := hAc
  obtain ⟨a1, a2, a3, a4, a5, a6⟩ := hA0
  have e83 : J 83 4 = J 46 1 := (hS 4 (by decide) (by decide)).1.symm.trans (cH_1 hh)
  have s3 : 0 ≤ J 46 2 ∧ J 46 2 ≤ 4 := (hS 4 (by decide) (by decide)).2.2.1
  have s4 : 0 ≤ J 46 3 ∧ J 46 3 ≤ 60 := (hS 4 (by decide) (by decide)).2.2.2.1
  have s5 : 0 ≤ J 46 1 ∧ J 46 1 < J 34 1 := (hS 4 (by decide) (by decide)).2.2.2.2.1 hh
  show zW _ _ _ _ [some (.ref 0), some (zi 4), some (zi i), some (zl v), none, none] _ _ _ _ _
  refine z_iload rfl rfl ?_
  refine z_callSi (As := [_]) (le := [some _]) rfl rfl (Nat.le_of_ble_eq_true rfl) (Nat.le_of_ble_eq_true rfl) rfl ?_
  refine z_iload rfl rfl ?_
  refine z_if_ltF rfl (by decide) (by decide) ?_
  refine z_iload rfl rfl ?_
  refine z_pushI (z := 6) rfl rfl ?_
  refine z_icmp_geF rfl (by decide) (by decide) (by decide) ?_
  refine z_pushI (z := 1) rfl rfl ?_
  refine z_goto rfl ?_
  refine z_bret rfl rfl (by decide) ?_
  show zW _ _ _ _ _ _ _ _ _ _
  refine z_if_neT rfl (by decide) (by decide) ?_
  refine z_aload rfl rfl ?_
  refine z_getR (r := 37) rfl rfl (hR _ rm_0_11) ?_
  refine z_iload rfl rfl ?_
  refine z_aald (r := 46) rfl rfl (by decide) (by decide) (hR _ rm_37_4) ?_
  refine z_iload rfl rfl ?_
  refine z_callVi (As := [_]) (le := [some _, some _]) rfl rfl rfl (Nat.le_of_ble_eq_true rfl) (Nat.le_of_ble_eq_true rfl) rfl ?_
  refine z_aload rfl rfl ?_
  refine z_getI (v := 1) rfl rfl (hh) ?_
  refine z_if_neT rfl (by decide) (by decide) ?_
  refine z_aload rfl rfl ?_
  refine z_getI (v := 1) rfl rfl (hh) ?_
  refine z_pushI (z := 2) rfl rfl ?_
  refine z_icmp_eqF rfl (by decide) (by decide) (by decide) ?_
  refine z_pushI (z := (-12)) rfl rfl ?_
  refine z_iret rfl rfl ?_
  show zW _ _ _ _ _ _ _ _ _ _
  refine z_istore rfl rfl ?_
  refine z_iload rfl rfl ?_
  refine z_if_geF rfl (by decide) (by decide) ?_
  refine z_iload rfl rfl ?_
  refine z_iret rfl rfl ?_
  refine ⟨_, rfl, ?_⟩
  show zW _ _ _ _ [some (.ref 50), some (zi 4), some (zi i), some (zl v), none, none, none] _ _ _ _ _
  refine z_aload rfl rfl ?_
  refine z_iload rfl rfl ?_
  refine z_iload rfl rfl ?_
  refine z_callVi (As := [_, _]) (le := [some _, some _, some _]) rfl rfl rfl (Nat.le_of_ble_eq_true rfl) (Nat.le_of_ble_eq_true rfl) rfl ?_
  refine z_iload rfl rfl ?_
  refine z_callSi (As := [_]) (le := [some _]) rfl rfl (Nat.le_of_ble_eq_true rfl) (Nat.le_of_ble_eq_true rfl) rfl ?_
  refine z_iload rfl rfl ?_
  refine z_pushI (z := 0) rfl rfl ?_
  refine z_pushI (z := 5) rfl rfl ?_
  refine z_callSi (As := [_, _, _]) (le := [some _, some _, some _]) rfl rfl (Nat.le_of_ble_eq_true rfl) (Nat.le_of_ble_eq_true rfl) rfl ?_
  refine z_iload rfl rfl ?_
  refine z_iload rfl rfl ?_
  refine z_icmp_ltF rfl (by decide) (by decide) (by decide) ?_
  refine z_iload rfl rfl ?_
  refine z_iload rfl rfl ?_
  refine z_icmp_gtF rfl (by decide) (by decide) (by decide) ?_
  refine z_pushI (z := 1) rfl rfl ?_
  refine z_goto rfl ?_
  refine z_bret rfl rfl (by decide) ?_
  show zW _ _ _ _ _ _ _ _ _ _
  refine z_bret rfl rfl (by decide) ?_
  show zW _ _ _ _ _ _ _ _ _ _
  refine z_if_neT rfl (by decide) (by decide) ?_
  refine z_aload rfl rfl ?_
  refine z_getR (r := 83) rfl rfl (hRr _ rm_50_58 (by decide)) ?_
  refine z_iload rfl rfl ?_
  refine z_iald (v := J 46 1) rfl rfl (by decide) (by decide) (e83) ?_
  refine z_pushI (z := (-1)) rfl rfl ?_
  refine z_icmp_ne rfl (by omega) (by decide) (fun h1 => ?_) (fun h1 => ?_)
  · refine z_aload rfl rfl ?_
    refine z_getR (r := 83) rfl rfl (hRr _ rm_50_58 (by decide)) ?_
    refine z_iload rfl rfl ?_
    refine z_iald (v := J 46 1) rfl rfl (by decide) (by decide) (e83) ?_
    refine z_if_lt rfl (by omega) (fun h2 => ?_) (fun h2 => ?_)
    · refine z_iload rfl rfl ?_
      refine z_pushI (z := 0) rfl rfl ?_
      refine z_aload rfl rfl ?_
      refine z_getR (r := 84) rfl rfl (hRr _ rm_50_59 (by decide)) ?_
      refine z_iload rfl rfl ?_
      refine z_iald (v := J 84 4) rfl rfl (by decide) (by decide) (rfl) ?_
      refine z_pushI (z := 1) rfl rfl ?_
      refine z_isub (e := (J 84 4) - 1) rfl rfl ?_
      refine z_callSi (As := [_, _, _]) (le := [some _, some _, some _]) rfl rfl (Nat.le_of_ble_eq_true rfl) (Nat.le_of_ble_eq_true rfl) rfl ?_
      refine z_iload rfl rfl ?_
      refine z_iload rfl rfl ?_
      refine z_icmp_lt rfl (by omega) (by decide) (fun h3 => ?_) (fun h3 => ?_)
      · refine z_pushI (z := 0) rfl rfl ?_
        refine z_bret rfl rfl (by decide) ?_
        show zW _ _ _ _ _ _ _ _ _ _
        refine z_if_eqT rfl (by decide) (by decide) ?_
        refine z_pushI (z := (-13)) rfl rfl ?_
        refine z_iret rfl rfl ?_
        show zW _ _ _ _ _ _ _ _ _ _
        refine z_istore rfl rfl ?_
        refine z_iload rfl rfl ?_
        refine z_if_geF rfl (by decide) (by decide) ?_
        refine z_iload rfl rfl ?_
        refine z_iret rfl rfl ?_
        refine ⟨?_, ?_⟩
        · first | rfl | exact congrArg (fun v => some (zi v)) (by omega) | (exfalso; omega)
        · exact hr
      · refine z_iload rfl rfl ?_
        refine z_iload rfl rfl ?_
        refine z_icmp_gt rfl (by omega) (by omega) (fun h4 => ?_) (fun h4 => ?_)
        · refine z_pushI (z := 0) rfl rfl ?_
          refine z_bret rfl rfl (by decide) ?_
          show zW _ _ _ _ _ _ _ _ _ _
          refine z_if_eqT rfl (by decide) (by decide) ?_
          refine z_pushI (z := (-13)) rfl rfl ?_
          refine z_iret rfl rfl ?_
          show zW _ _ _ _ _ _ _ _ _ _
          refine z_istore rfl rfl ?_
          refine z_iload rfl rfl ?_
          refine z_if_geF rfl (by decide) (by decide) ?_
          refine z_iload rfl rfl ?_
          refine z_iret rfl rfl ?_
          refine ⟨?_, ?_⟩
          · first | rfl | exact congrArg (fun v => some (zi v)) (by omega) | (exfalso; omega)
          · exact hr
        · refine z_pushI (z := 1) rfl rfl ?_
          refine z_goto rfl ?_
          refine z_bret rfl rfl (by decide) ?_
          show zW _ _ _ _ _ _ _ _ _ _
          refine z_if_eqF rfl (by decide) (by decide) ?_
          refine z_pushI (z := 0) rfl rfl ?_
          refine z_goto rfl ?_
          refine z_iret rfl rfl ?_
          show zW _ _ _ _ _ _ _ _ _ _
          refine z_istore rfl rfl ?_
          refine z_iload rfl rfl ?_
          refine z_if_geT rfl (by decide) (by decide) ?_
          refine z_pushI (z := (-2)) rfl rfl ?_
          refine z_aload rfl rfl ?_
          refine z_getR (r := 83) rfl rfl (hRr _ rm_50_58 (by decide)) ?_
          refine z_iload rfl rfl ?_
          refine z_iald (v := J 46 1) rfl rfl (by decide) (by decide) (e83) ?_
          refine z_isub (e := (-2) - (J 46 1)) rfl rfl ?_
          refine z_istore rfl rfl ?_
          refine z_aload rfl rfl ?_
          refine z_getR (r := 85) rfl rfl (hRr _ rm_50_60 (by decide)) ?_
          refine z_pushI (z := 60) rfl rfl ?_
          refine z_iload rfl rfl ?_
          refine z_imul (e := 240) rfl rfl ?_
          refine z_iload rfl rfl ?_
          refine z_iadd (e := 240 + i) rfl rfl ?_
          refine z_iload rfl rfl ?_
          refine z_if_ne rfl (by omega) (fun h5 => ?_) (fun h5 => ?_)
          · refine z_iload rfl rfl ?_
            refine z_pushI (z := 1) rfl rfl ?_
            refine z_icmp_ne rfl (by omega) (by decide) (fun h6 => ?_) (fun h6 => ?_)
            · refine z_iload rfl rfl ?_
              refine z_pushI (z := 2) rfl rfl ?_
              refine z_icmp_ne rfl (by omega) (by decide) (fun h7 => ?_) (fun h7 => ?_)
              · refine z_iload rfl rfl ?_
                refine z_pushI (z := 3) rfl rfl ?_
                refine z_icmp_ne rfl (by omega) (by decide) (fun h8 => ?_) (fun h8 => ?_)
                · refine z_lload rfl rfl ?_
                  refine z_pushL (z := 0) rfl rfl ?_
                  refine z_lcmp_eq rfl rfl (by omega) (by omega) (fun h9 => ?_) (fun h9 => ?_)
                  · refine z_pushL (z := 0) rfl rfl ?_
                    refine z_last (e := 0) rfl rfl (by decide) (by omega) rfl ?_
                    refine z_pushI (z := 1) rfl rfl ?_
                    refine z_iret rfl rfl ?_
                    refine ⟨?_, ?_⟩
                    · first | rfl | exact congrArg (fun v => some (zi v)) (by omega) | (exfalso; omega)
                    · exfalso
                      omega
                  · refine z_pushL (z := 1) rfl rfl ?_
                    refine z_goto rfl ?_
                    refine z_last (e := 1) rfl rfl (by decide) (by omega) rfl ?_
                    refine z_pushI (z := 1) rfl rfl ?_
                    refine z_iret rfl rfl ?_
                    refine ⟨?_, ?_⟩
                    · first | rfl | exact congrArg (fun v => some (zi v)) (by omega) | (exfalso; omega)
                    · exfalso
                      omega
                · refine z_lload rfl rfl ?_
                  refine z_goto rfl ?_
                  refine z_last (e := v) rfl rfl (by decide) (by omega) rfl ?_
                  refine z_pushI (z := 1) rfl rfl ?_
                  refine z_iret rfl rfl ?_
                  refine ⟨?_, ?_⟩
                  · first | rfl | exact congrArg (fun v => some (zi v)) (by omega) | (exfalso; omega)
                  · exfalso
                    omega
              · refine z_lload rfl rfl ?_
                refine z_l2i rfl ?_
                refine z_topn (e := zn v) rfl ?_
                have q10 := zn_r v
                refine z_i2l rfl (by omega) ?_
                refine z_goto rfl ?_
                refine z_last (e := zn v) rfl rfl (by decide) (by omega) rfl ?_
                refine z_pushI (z := 1) rfl rfl ?_
                refine z_iret rfl rfl ?_
                refine ⟨?_, ?_⟩
                · first | rfl | exact congrArg (fun v => some (zi v)) (by omega) | (exfalso; omega)
                · exfalso
                  omega
            · refine z_lload rfl rfl ?_
              refine z_l2i rfl ?_
              refine z_i2s (e := zh v) rfl rfl ?_
              have q11 := zh_r v
              refine z_i2l rfl (by omega) ?_
              refine z_goto rfl ?_
              refine z_last (e := zh v) rfl rfl (by decide) (by omega) rfl ?_
              refine z_pushI (z := 1) rfl rfl ?_
              refine z_iret rfl rfl ?_
              refine ⟨?_, ?_⟩
              · first | rfl | exact congrArg (fun v => some (zi v)) (by omega) | (exfalso; omega)
              · exfalso
                omega
          · refine z_lload rfl rfl ?_
            refine z_l2i rfl ?_
            refine z_i2b (e := zb v) rfl rfl ?_
            have q12 := zb_r v
            refine z_i2l rfl (by omega) ?_
            refine z_goto rfl ?_
            refine z_last (e := zb v) rfl rfl (by decide) (by omega) rfl ?_
            refine z_pushI (z := 1) rfl rfl ?_
            refine z_iret rfl rfl ?_
            refine ⟨?_, ?_⟩
            · first | rfl | exact congrArg (fun v => some (zi v)) (by omega) | (exfalso; omega)
            · exfalso
              omega
    · refine z_pushI (z := (-12)) rfl rfl ?_
      refine z_iret rfl rfl ?_
      show zW _ _ _ _ _ _ _ _ _ _
      refine z_istore rfl rfl ?_
      refine z_iload rfl rfl ?_
      refine z_if_geF rfl (by decide) (by decide) ?_
      refine z_iload rfl rfl ?_
      refine z_iret rfl rfl ?_
      refine ⟨?_, ?_⟩
      · first | rfl | exact congrArg (fun v => some (zi v)) (by omega) | (exfalso; omega)
      · exact hr
  · refine z_pushI (z := (-11)) rfl rfl ?_
    refine z_iret rfl rfl ?_
    show zW _ _ _ _ _ _ _ _ _ _
    refine z_istore rfl rfl ?_
    refine z_iload rfl rfl ?_
    refine z_if_geF rfl (by decide) (by decide) ?_
    refine z_iload rfl rfl ?_
    refine z_iret rfl rfl ?_
    refine ⟨?_, ?_⟩
    · first | rfl | exact congrArg (fun v => some (zi v)) (by omega) | (exfalso; omega)
    · exact hr
theorem st_element_42 {X : Nat × (Nat → Int32)} {d : Nat} {J M : zA} {R : zR} {i : Int} (hr : Rel X J M R) (hi : -2147483648 ≤ i ∧ i < 2147483648) (hh : J 46 0 = 2) : zW X (d + 20) 139 0 (gEn 139 [(.ref 0), (zi 4), (zi i)]) [] J M R (stL X (d + 20) 253 [(zi 4), (zi i)]) := by
  have hr0 := hr
  obtain ⟨hR, hG, hY, hD, hP, hC, hAc, hS, hTp, hX, hW⟩ := hr0
  have hRr : zRoR R := zRoR_of hR
  have hA0 := hAc
  obtain ⟨a1, a2, a3, a4, a5, a6⟩ := hA0
  have e83 : J 83 4 = -2 - J 46 2 := (hS 4 (by decide) (by decide)).1.symm.trans (cH_2 hh)
  have s3 : 0 ≤ J 46 2 ∧ J 46 2 ≤ 4 := (hS 4 (by decide) (by decide)).2.2.1
  have s4 : 0 ≤ J 46 3 ∧ J 46 3 ≤ 60 := (hS 4 (by decide) (by decide)).2.2.2.1
  have s6 := (hS 4 (by decide) (by decide)).2.2.2.2.2 hh
  have s7 : J 84 4 = J 46 3 := s6.1.symm
  have s8 : ∀ i, 0 ≤ i → i < J 46 3 → M 47 i = M 85 (240 + i) := s6.2.1
  show zW _ _ _ _ [some (.ref 0), some (zi 4), some (zi i)] _ _ _ _ _
  refine z_iload rfl rfl ?_
  refine z_callSi (As := [_]) (le := [some _]) rfl rfl (Nat.le_of_ble_eq_true rfl) (Nat.le_of_ble_eq_true rfl) rfl ?_
  refine z_iload rfl rfl ?_
  refine z_if_ltF rfl (by decide) (by decide) ?_
  refine z_iload rfl rfl ?_
  refine z_pushI (z := 6) rfl rfl ?_
  refine z_icmp_geF rfl (by decide) (by decide) (by decide) ?_
  refine z_pushI (z := 1) rfl rfl ?_
  refine z_goto rfl ?_
  refine z_bret rfl rfl (by decide) ?_
  show zW _ _ _ _ _ _ _ _ _ _
  refine z_if_eqF rfl (by decide) (by decide) ?_
  refine z_aload rfl rfl ?_
  refine z_getR (r := 37) rfl rfl (hR _ rm_0_11) ?_
  refine z_iload rfl rfl ?_
  refine z_aald (r := 46) rfl rfl (by decide) (by decide) (hR _ rm_37_4) ?_
  refine z_iload rfl rfl ?_
  refine z_callVi (As := [_]) (le := [some _, some _]) rfl rfl rfl (Nat.le_of_ble_eq_true rfl) (Nat.le_of_ble_eq_true rfl) rfl ?_
  refine z_aload rfl rfl ?_
  refine z_getI (v := 2) rfl rfl (hh) ?_
  refine z_if_neT rfl (by decide) (by decide) ?_
  refine z_aload rfl rfl ?_
  refine z_getI (v := 2) rfl rfl (hh) ?_
  refine z_pushI (z := 2) rfl rfl ?_
  refine z_icmp_eqT rfl (by decide) (by decide) (by decide) ?_
  refine z_iload rfl rfl ?_
  refine z_if_lt rfl (by omega) (fun h1 => ?_) (fun h1 => ?_)
  · refine z_pushI (z := (-13)) rfl rfl ?_
    refine z_iret rfl rfl ?_
    show zW _ _ _ _ _ _ _ _ _ _
    refine z_if_geF rfl (by decide) (by decide) ?_
    refine z_pushL (z := (-9223372036854775808)) rfl rfl ?_
    refine z_lret rfl rfl ?_
    refine ⟨_, rfl, ?_⟩
    show zW _ _ _ _ [some (.ref 50), some (zi 4), some (zi i)] _ _ _ _ _
    refine z_aload rfl rfl ?_
    refine z_iload rfl rfl ?_
    refine z_iload rfl rfl ?_
    refine z_callVi (As := [_, _]) (le := [some _, some _, some _]) rfl rfl rfl (Nat.le_of_ble_eq_true rfl) (Nat.le_of_ble_eq_true rfl) rfl ?_
    refine z_iload rfl rfl ?_
    refine z_callSi (As := [_]) (le := [some _]) rfl rfl (Nat.le_of_ble_eq_true rfl) (Nat.le_of_ble_eq_true rfl) rfl ?_
    refine z_iload rfl rfl ?_
    refine z_pushI (z := 0) rfl rfl ?_
    refine z_pushI (z := 5) rfl rfl ?_
    refine z_callSi (As := [_, _, _]) (le := [some _, some _, some _]) rfl rfl (Nat.le_of_ble_eq_true rfl) (Nat.le_of_ble_eq_true rfl) rfl ?_
    refine z_iload rfl rfl ?_
    refine z_iload rfl rfl ?_
    refine z_icmp_ltF rfl (by decide) (by decide) (by decide) ?_
    refine z_iload rfl rfl ?_
    refine z_iload rfl rfl ?_
    refine z_icmp_gtF rfl (by decide) (by decide) (by decide) ?_
    refine z_pushI (z := 1) rfl rfl ?_
    refine z_goto rfl ?_
    refine z_bret rfl rfl (by decide) ?_
    show zW _ _ _ _ _ _ _ _ _ _
    refine z_bret rfl rfl (by decide) ?_
    show zW _ _ _ _ _ _ _ _ _ _
    refine z_if_neT rfl (by decide) (by decide) ?_
    refine z_aload rfl rfl ?_
    refine z_getR (r := 83) rfl rfl (hRr _ rm_50_58 (by decide)) ?_
    refine z_iload rfl rfl ?_
    refine z_iald (v := (-2) - (J 46 2)) rfl rfl (by decide) (by decide) (e83) ?_
    refine z_pushI (z := (-1)) rfl rfl ?_
    refine z_icmp_ne rfl (by omega) (by decide) (fun h2 => ?_) (fun h2 => ?_)
    · refine z_aload rfl rfl ?_
      refine z_getR (r := 83) rfl rfl (hRr _ rm_50_58 (by decide)) ?_
      refine z_iload rfl rfl ?_
      refine z_iald (v := (-2) - (J 46 2)) rfl rfl (by decide) (by decide) (e83) ?_
      refine z_if_lt rfl (by omega) (fun h3 => ?_) (fun h3 => ?_)
      · refine z_iload rfl rfl ?_
        refine z_pushI (z := 0) rfl rfl ?_
        refine z_aload rfl rfl ?_
        refine z_getR (r := 84) rfl rfl (hRr _ rm_50_59 (by decide)) ?_
        refine z_iload rfl rfl ?_
        refine z_iald (v := J 46 3) rfl rfl (by decide) (by decide) (s7) ?_
        refine z_pushI (z := 1) rfl rfl ?_
        refine z_isub (e := (J 46 3) - 1) rfl rfl ?_
        refine z_callSi (As := [_, _, _]) (le := [some _, some _, some _]) rfl rfl (Nat.le_of_ble_eq_true rfl) (Nat.le_of_ble_eq_true rfl) rfl ?_
        refine z_iload rfl rfl ?_
        refine z_iload rfl rfl ?_
        refine z_icmp_ltT rfl (by omega) (by decide) (by omega) ?_
        refine z_pushI (z := 0) rfl rfl ?_
        refine z_bret rfl rfl (by decide) ?_
        show zW _ _ _ _ _ _ _ _ _ _
        refine z_if_eqT rfl (by decide) (by decide) ?_
        refine z_pushI (z := (-13)) rfl rfl ?_
        refine z_iret rfl rfl ?_
        show zW _ _ _ _ _ _ _ _ _ _
        refine z_if_geF rfl (by decide) (by decide) ?_
        refine z_pushL (z := (-9223372036854775808)) rfl rfl ?_
        refine z_goto rfl ?_
        refine z_lret rfl rfl ?_
        refine ⟨?_, ?_⟩
        · first | rfl | exact congrArg (fun v => some (zl v)) (by omega) | (exfalso; omega)
        · exact hr
      · refine z_pushI (z := (-12)) rfl rfl ?_
        refine z_iret rfl rfl ?_
        show zW _ _ _ _ _ _ _ _ _ _
        refine z_if_geF rfl (by decide) (by decide) ?_
        refine z_pushL (z := (-9223372036854775808)) rfl rfl ?_
        refine z_goto rfl ?_
        refine z_lret rfl rfl ?_
        refine ⟨?_, ?_⟩
        · first | rfl | exact congrArg (fun v => some (zl v)) (by omega) | (exfalso; omega)
        · exact hr
    · refine z_pushI (z := (-11)) rfl rfl ?_
      refine z_iret rfl rfl ?_
      show zW _ _ _ _ _ _ _ _ _ _
      refine z_if_geF rfl (by decide) (by decide) ?_
      refine z_pushL (z := (-9223372036854775808)) rfl rfl ?_
      refine z_goto rfl ?_
      refine z_lret rfl rfl ?_
      refine ⟨?_, ?_⟩
      · first | rfl | exact congrArg (fun v => some (zl v)) (by omega) | (exfalso; omega)
      · exact hr
  · refine z_iload rfl rfl ?_
    refine z_aload rfl rfl ?_
    refine z_getI (v := J 46 3) rfl rfl (rfl) ?_
    refine z_icmp_ge rfl (by omega) (by omega) (fun h2 => ?_) (fun h2 => ?_)
    · refine z_pushI (z := (-13)) rfl rfl ?_
      refine z_iret rfl rfl ?_
      show zW _ _ _ _ _ _ _ _ _ _
      refine z_if_geF rfl (by decide) (by decide) ?_
      refine z_pushL (z := (-9223372036854775808)) rfl rfl ?_
      refine z_lret rfl rfl ?_
      refine ⟨_, rfl, ?_⟩
      show zW _ _ _ _ [some (.ref 50), some (zi 4), some (zi i)] _ _ _ _ _
      refine z_aload rfl rfl ?_
      refine z_iload rfl rfl ?_
      refine z_iload rfl rfl ?_
      refine z_callVi (As := [_, _]) (le := [some _, some _, some _]) rfl rfl rfl (Nat.le_of_ble_eq_true rfl) (Nat.le_of_ble_eq_true rfl) rfl ?_
      refine z_iload rfl rfl ?_
      refine z_callSi (As := [_]) (le := [some _]) rfl rfl (Nat.le_of_ble_eq_true rfl) (Nat.le_of_ble_eq_true rfl) rfl ?_
      refine z_iload rfl rfl ?_
      refine z_pushI (z := 0) rfl rfl ?_
      refine z_pushI (z := 5) rfl rfl ?_
      refine z_callSi (As := [_, _, _]) (le := [some _, some _, some _]) rfl rfl (Nat.le_of_ble_eq_true rfl) (Nat.le_of_ble_eq_true rfl) rfl ?_
      refine z_iload rfl rfl ?_
      refine z_iload rfl rfl ?_
      refine z_icmp_ltF rfl (by decide) (by decide) (by decide) ?_
      refine z_iload rfl rfl ?_
      refine z_iload rfl rfl ?_
      refine z_icmp_gtF rfl (by decide) (by decide) (by decide) ?_
      refine z_pushI (z := 1) rfl rfl ?_
      refine z_goto rfl ?_
      refine z_bret rfl rfl (by decide) ?_
      show zW _ _ _ _ _ _ _ _ _ _
      refine z_bret rfl rfl (by decide) ?_
      show zW _ _ _ _ _ _ _ _ _ _
      refine z_if_neT rfl (by decide) (by decide) ?_
      refine z_aload rfl rfl ?_
      refine z_getR (r := 83) rfl rfl (hRr _ rm_50_58 (by decide)) ?_
      refine z_iload rfl rfl ?_
      refine z_iald (v := (-2) - (J 46 2)) rfl rfl (by decide) (by decide) (e83) ?_
      refine z_pushI (z := (-1)) rfl rfl ?_
      refine z_icmp_ne rfl (by omega) (by decide) (fun h3 => ?_) (fun h3 => ?_)
      · refine z_aload rfl rfl ?_
        refine z_getR (r := 83) rfl rfl (hRr _ rm_50_58 (by decide)) ?_
        refine z_iload rfl rfl ?_
        refine z_iald (v := (-2) - (J 46 2)) rfl rfl (by decide) (by decide) (e83) ?_
        refine z_if_lt rfl (by omega) (fun h4 => ?_) (fun h4 => ?_)
        · refine z_iload rfl rfl ?_
          refine z_pushI (z := 0) rfl rfl ?_
          refine z_aload rfl rfl ?_
          refine z_getR (r := 84) rfl rfl (hRr _ rm_50_59 (by decide)) ?_
          refine z_iload rfl rfl ?_
          refine z_iald (v := J 46 3) rfl rfl (by decide) (by decide) (s7) ?_
          refine z_pushI (z := 1) rfl rfl ?_
          refine z_isub (e := (J 46 3) - 1) rfl rfl ?_
          refine z_callSi (As := [_, _, _]) (le := [some _, some _, some _]) rfl rfl (Nat.le_of_ble_eq_true rfl) (Nat.le_of_ble_eq_true rfl) rfl ?_
          refine z_iload rfl rfl ?_
          refine z_iload rfl rfl ?_
          refine z_icmp_ltF rfl (by omega) (by decide) (by omega) ?_
          refine z_iload rfl rfl ?_
          refine z_iload rfl rfl ?_
          refine z_icmp_gtT rfl (by omega) (by omega) (by omega) ?_
          refine z_pushI (z := 0) rfl rfl ?_
          refine z_bret rfl rfl (by decide) ?_
          show zW _ _ _ _ _ _ _ _ _ _
          refine z_if_eqT rfl (by decide) (by decide) ?_
          refine z_pushI (z := (-13)) rfl rfl ?_
          refine z_iret rfl rfl ?_
          show zW _ _ _ _ _ _ _ _ _ _
          refine z_if_geF rfl (by decide) (by decide) ?_
          refine z_pushL (z := (-9223372036854775808)) rfl rfl ?_
          refine z_goto rfl ?_
          refine z_lret rfl rfl ?_
          refine ⟨?_, ?_⟩
          · first | rfl | exact congrArg (fun v => some (zl v)) (by omega) | (exfalso; omega)
          · exact hr
        · refine z_pushI (z := (-12)) rfl rfl ?_
          refine z_iret rfl rfl ?_
          show zW _ _ _ _ _ _ _ _ _ _
          refine z_if_geF rfl (by decide) (by decide) ?_
          refine z_pushL (z := (-9223372036854775808)) rfl rfl ?_
          refine z_goto rfl ?_
          refine z_lret rfl rfl ?_
          refine ⟨?_, ?_⟩
          · first | rfl | exact congrArg (fun v => some (zl v)) (by omega) | (exfalso; omega)
          · exact hr
      · refine z_pushI (z := (-11)) rfl rfl ?_
        refine z_iret rfl rfl ?_
        show zW _ _ _ _ _ _ _ _ _ _
        refine z_if_geF rfl (by decide) (by decide) ?_
        refine z_pushL (z := (-9223372036854775808)) rfl rfl ?_
        refine z_goto rfl ?_
        refine z_lret rfl rfl ?_
        refine ⟨?_, ?_⟩
        · first | rfl | exact congrArg (fun v => some (zl v)) (by omega) | (exfalso; omega)
        · exact hr
    · refine z_pushI (z := 0) rfl rfl ?_
      refine z_goto rfl ?_
      refine z_iret rfl rfl ?_
      show zW _ _ _ _ _ _ _ _ _ _
      refine z_if_geT rfl (by decide) (by decide) ?_
      refine z_aload rfl rfl ?_
      refine z_getR (r := 37) rfl rfl (hR _ rm_0_11) ?_
      refine z_iload rfl rfl ?_
      refine z_aald (r := 46) rfl rfl (by decide) (by decide) (hR _ rm_37_4) ?_
      refine z_iload rfl rfl ?_
      refine z_callVi (As := [_]) (le := [some _, some _]) rfl rfl rfl (Nat.le_of_ble_eq_true rfl) (Nat.le_of_ble_eq_true rfl) rfl ?_
      refine z_iload rfl rfl ?_
      refine z_if_ltF rfl (by omega) (by omega) ?_
      refine z_iload rfl rfl ?_
      refine z_aload rfl rfl ?_
      refine z_getI (v := J 46 3) rfl rfl (rfl) ?_
      refine z_icmp_geF rfl (by omega) (by omega) (by omega) ?_
      refine z_aload rfl rfl ?_
      refine z_getR (r := 47) rfl rfl (hR _ rm_46_4) ?_
      refine z_iload rfl rfl ?_
      refine z_lald (v := M 47 i) rfl rfl (by decide) (by omega) (rfl) ?_
      refine z_goto rfl ?_
      refine z_lret rfl rfl ?_
      show zW _ _ _ _ _ _ _ _ _ _
      refine z_lret rfl rfl ?_
      refine ⟨_, rfl, ?_⟩
      show zW _ _ _ _ [some (.ref 50), some (zi 4), some (zi i)] _ _ _ _ _
      refine z_aload rfl rfl ?_
      refine z_iload rfl rfl ?_
      refine z_iload rfl rfl ?_
      refine z_callVi (As := [_, _]) (le := [some _, some _, some _]) rfl rfl rfl (Nat.le_of_ble_eq_true rfl) (Nat.le_of_ble_eq_true rfl) rfl ?_
      refine z_iload rfl rfl ?_
      refine z_callSi (As := [_]) (le := [some _]) rfl rfl (Nat.le_of_ble_eq_true rfl) (Nat.le_of_ble_eq_true rfl) rfl ?_
      refine z_iload rfl rfl ?_
      refine z_pushI (z := 0) rfl rfl ?_
      refine z_pushI (z := 5) rfl rfl ?_
      refine z_callSi (As := [_, _, _]) (le := [some _, some _, some _]) rfl rfl (Nat.le_of_ble_eq_true rfl) (Nat.le_of_ble_eq_true rfl) rfl ?_
      refine z_iload rfl rfl ?_
      refine z_iload rfl rfl ?_
      refine z_icmp_ltF rfl (by decide) (by decide) (by decide) ?_
      refine z_iload rfl rfl ?_
      refine z_iload rfl rfl ?_
      refine z_icmp_gtF rfl (by decide) (by decide) (by decide) ?_
      refine z_pushI (z := 1) rfl rfl ?_
      refine z_goto rfl ?_
      refine z_bret rfl rfl (by decide) ?_
      show zW _ _ _ _ _ _ _ _ _ _
      refine z_bret rfl rfl (by decide) ?_
      show zW _ _ _ _ _ _ _ _ _ _
      refine z_if_neT rfl (by decide) (by decide) ?_
      refine z_aload rfl rfl ?_
      refine z_getR (r := 83) rfl rfl (hRr _ rm_50_58 (by decide)) ?_
      refine z_iload rfl rfl ?_
      refine z_iald (v := (-2) - (J 46 2)) rfl rfl (by decide) (by decide) (e83) ?_
      refine z_pushI (z := (-1)) rfl rfl ?_
      refine z_icmp_ne rfl (by omega) (by decide) (fun h3 => ?_) (fun h3 => ?_)
      · refine z_aload rfl rfl ?_
        refine z_getR (r := 83) rfl rfl (hRr _ rm_50_58 (by decide)) ?_
        refine z_iload rfl rfl ?_
        refine z_iald (v := (-2) - (J 46 2)) rfl rfl (by decide) (by decide) (e83) ?_
        refine z_if_lt rfl (by omega) (fun h4 => ?_) (fun h4 => ?_)
        · refine z_iload rfl rfl ?_
          refine z_pushI (z := 0) rfl rfl ?_
          refine z_aload rfl rfl ?_
          refine z_getR (r := 84) rfl rfl (hRr _ rm_50_59 (by decide)) ?_
          refine z_iload rfl rfl ?_
          refine z_iald (v := J 46 3) rfl rfl (by decide) (by decide) (s7) ?_
          refine z_pushI (z := 1) rfl rfl ?_
          refine z_isub (e := (J 46 3) - 1) rfl rfl ?_
          refine z_callSi (As := [_, _, _]) (le := [some _, some _, some _]) rfl rfl (Nat.le_of_ble_eq_true rfl) (Nat.le_of_ble_eq_true rfl) rfl ?_
          refine z_iload rfl rfl ?_
          refine z_iload rfl rfl ?_
          refine z_icmp_ltF rfl (by omega) (by decide) (by omega) ?_
          refine z_iload rfl rfl ?_
          refine z_iload rfl rfl ?_
          refine z_icmp_gtF rfl (by omega) (by omega) (by omega) ?_
          refine z_pushI (z := 1) rfl rfl ?_
          refine z_goto rfl ?_
          refine z_bret rfl rfl (by decide) ?_
          show zW _ _ _ _ _ _ _ _ _ _
          refine z_if_eqF rfl (by decide) (by decide) ?_
          refine z_pushI (z := 0) rfl rfl ?_
          refine z_goto rfl ?_
          refine z_iret rfl rfl ?_
          show zW _ _ _ _ _ _ _ _ _ _
          refine z_if_geT rfl (by decide) (by decide) ?_
          refine z_aload rfl rfl ?_
          refine z_getR (r := 85) rfl rfl (hRr _ rm_50_60 (by decide)) ?_
          refine z_pushI (z := 60) rfl rfl ?_
          refine z_iload rfl rfl ?_
          refine z_imul (e := 240) rfl rfl ?_
          refine z_iload rfl rfl ?_
          refine z_iadd (e := 240 + i) rfl rfl ?_
          refine z_lald (v := M 85 (240 + i)) rfl rfl (by decide) (by omega) (rfl) ?_
          refine z_lret rfl rfl ?_
          refine ⟨?_, ?_⟩
          · first | exact congrArg (fun v => some (zl v)) (s8 i (by omega) (by omega)).symm | (exfalso; omega)
          · exact hr
        · refine z_pushI (z := (-12)) rfl rfl ?_
          refine z_iret rfl rfl ?_
          show zW _ _ _ _ _ _ _ _ _ _
          refine z_if_geF rfl (by decide) (by decide) ?_
          refine z_pushL (z := (-9223372036854775808)) rfl rfl ?_
          refine z_goto rfl ?_
          refine z_lret rfl rfl ?_
          refine ⟨?_, ?_⟩
          · first | exact congrArg (fun v => some (zl v)) (s8 i (by omega) (by omega)).symm | (exfalso; omega)
          · exact hr
      · refine z_pushI (z := (-11)) rfl rfl ?_
        refine z_iret rfl rfl ?_
        show zW _ _ _ _ _ _ _ _ _ _
        refine z_if_geF rfl (by decide) (by decide) ?_
        refine z_pushL (z := (-9223372036854775808)) rfl rfl ?_
        refine z_goto rfl ?_
        refine z_lret rfl rfl ?_
        refine ⟨?_, ?_⟩
        · first | exact congrArg (fun v => some (zl v)) (s8 i (by omega) (by omega)).symm | (exfalso; omega)
        · exact hr
theorem st_put_420 {X : Nat × (Nat → Int32)} {d : Nat} {J M : zA} {R : zR} {i v : Int} (hr : Rel X J M R) (hi : -2147483648 ≤ i ∧ i < 2147483648) (hv : -9223372036854775808 ≤ v ∧ v < 9223372036854775808) (hh : J 46 0 = 2) (hso : J 46 2 = 0) : zW X (d + 20) 138 0 (gEn 138 [(.ref 0), (zi 4), (zi i), (zl v)]) [] J M R (stP X (d + 20) 252 [(zi 4), (zi i), (zl v)]) := by
  have hr0 := hr
  obtain ⟨hR, hG, hY, hD, hP, hC, hAc, hS, hTp, hX, hW⟩ := hr0
  have hRr : zRoR R := zRoR_of hR
  have e83 : J 83 4 = -2 - J 46 2 := (hS 4 (by decide) (by decide)).1.symm.trans (cH_2 hh)
  have s3 : 0 ≤ J 46 2 ∧ J 46 2 ≤ 4 := (hS 4 (by decide) (by decide)).2.2.1
  have s4 : 0 ≤ J 46 3 ∧ J 46 3 ≤ 60 := (hS 4 (by decide) (by decide)).2.2.2.1
  have s6 := (hS 4 (by decide) (by decide)).2.2.2.2.2 hh
  have s7 : J 84 4 = J 46 3 := s6.1.symm
  have s8 : ∀ i, 0 ≤ i → i < J 46 3 → M 47 i = M 85 (240 + i) := s6.2.1
  show zW _ _ _ _ [some (.ref 0), some (zi 4), some (zi i), some (zl v), none, none] _ _ _ _ _
  refine z_iload rfl rfl ?_
  refine z_callSi (As := [_]) (le := [some _]) rfl rfl (Nat.le_of_ble_eq_true rfl) (Nat.le_of_ble_eq_true rfl) rfl ?_
  refine z_iload rfl rfl ?_
  refine z_if_ltF rfl (by decide) (by decide) ?_
  refine z_iload rfl rfl ?_
  refine z_pushI (z := 6) rfl rfl ?_
  refine z_icmp_geF rfl (by decide) (by decide) (by decide) ?_
  refine z_pushI (z := 1) rfl rfl ?_
  refine z_goto rfl ?_
  refine z_bret rfl rfl (by decide) ?_
  show zW _ _ _ _ _ _ _ _ _ _
  refine z_if_neT rfl (by decide) (by decide) ?_
  refine z_aload rfl rfl ?_
  refine z_getR (r := 37) rfl rfl (hR _ rm_0_11) ?_
  refine z_iload rfl rfl ?_
  refine z_aald (r := 46) rfl rfl (by decide) (by decide) (hR _ rm_37_4) ?_
  refine z_iload rfl rfl ?_
  refine z_callVi (As := [_]) (le := [some _, some _]) rfl rfl rfl (Nat.le_of_ble_eq_true rfl) (Nat.le_of_ble_eq_true rfl) rfl ?_
  refine z_aload rfl rfl ?_
  refine z_getI (v := 2) rfl rfl (hh) ?_
  refine z_if_neT rfl (by decide) (by decide) ?_
  refine z_aload rfl rfl ?_
  refine z_getI (v := 2) rfl rfl (hh) ?_
  refine z_pushI (z := 2) rfl rfl ?_
  refine z_icmp_eqT rfl (by decide) (by decide) (by decide) ?_
  refine z_iload rfl rfl ?_
  refine z_if_lt rfl (by omega) (fun h1 => ?_) (fun h1 => ?_)
  · refine z_pushI (z := (-13)) rfl rfl ?_
    refine z_iret rfl rfl ?_
    show zW _ _ _ _ _ _ _ _ _ _
    refine z_istore rfl rfl ?_
    refine z_iload rfl rfl ?_
    refine z_if_geF rfl (by decide) (by decide) ?_
    refine z_iload rfl rfl ?_
    refine z_iret rfl rfl ?_
    refine ⟨_, rfl, ?_⟩
    show zW _ _ _ _ [some (.ref 50), some (zi 4), some (zi i), some (zl v), none, none, none] _ _ _ _ _
    refine z_aload rfl rfl ?_
    refine z_iload rfl rfl ?_
    refine z_iload rfl rfl ?_
    refine z_callVi (As := [_, _]) (le := [some _, some _, some _]) rfl rfl rfl (Nat.le_of_ble_eq_true rfl) (Nat.le_of_ble_eq_true rfl) rfl ?_
    refine z_iload rfl rfl ?_
    refine z_callSi (As := [_]) (le := [some _]) rfl rfl (Nat.le_of_ble_eq_true rfl) (Nat.le_of_ble_eq_true rfl) rfl ?_
    refine z_iload rfl rfl ?_
    refine z_pushI (z := 0) rfl rfl ?_
    refine z_pushI (z := 5) rfl rfl ?_
    refine z_callSi (As := [_, _, _]) (le := [some _, some _, some _]) rfl rfl (Nat.le_of_ble_eq_true rfl) (Nat.le_of_ble_eq_true rfl) rfl ?_
    refine z_iload rfl rfl ?_
    refine z_iload rfl rfl ?_
    refine z_icmp_ltF rfl (by decide) (by decide) (by decide) ?_
    refine z_iload rfl rfl ?_
    refine z_iload rfl rfl ?_
    refine z_icmp_gtF rfl (by decide) (by decide) (by decide) ?_
    refine z_pushI (z := 1) rfl rfl ?_
    refine z_goto rfl ?_
    refine z_bret rfl rfl (by decide) ?_
    show zW _ _ _ _ _ _ _ _ _ _
    refine z_bret rfl rfl (by decide) ?_
    show zW _ _ _ _ _ _ _ _ _ _
    refine z_if_neT rfl (by decide) (by decide) ?_
    refine z_aload rfl rfl ?_
    refine z_getR (r := 83) rfl rfl (hRr _ rm_50_58 (by decide)) ?_
    refine z_iload rfl rfl ?_
    refine z_iald (v := (-2)) rfl rfl (by decide) (by decide) ((e83.trans (by rw [hso]; rfl))) ?_
    refine z_pushI (z := (-1)) rfl rfl ?_
    refine z_icmp_neT rfl (by decide) (by decide) (by decide) ?_
    refine z_aload rfl rfl ?_
    refine z_getR (r := 83) rfl rfl (hRr _ rm_50_58 (by decide)) ?_
    refine z_iload rfl rfl ?_
    refine z_iald (v := (-2)) rfl rfl (by decide) (by decide) ((e83.trans (by rw [hso]; rfl))) ?_
    refine z_if_ltT rfl (by decide) (by decide) ?_
    refine z_iload rfl rfl ?_
    refine z_pushI (z := 0) rfl rfl ?_
    refine z_aload rfl rfl ?_
    refine z_getR (r := 84) rfl rfl (hRr _ rm_50_59 (by decide)) ?_
    refine z_iload rfl rfl ?_
    refine z_iald (v := J 46 3) rfl rfl (by decide) (by decide) (s7) ?_
    refine z_pushI (z := 1) rfl rfl ?_
    refine z_isub (e := (J 46 3) - 1) rfl rfl ?_
    refine z_callSi (As := [_, _, _]) (le := [some _, some _, some _]) rfl rfl (Nat.le_of_ble_eq_true rfl) (Nat.le_of_ble_eq_true rfl) rfl ?_
    refine z_iload rfl rfl ?_
    refine z_iload rfl rfl ?_
    refine z_icmp_ltT rfl (by omega) (by decide) (by omega) ?_
    refine z_pushI (z := 0) rfl rfl ?_
    refine z_bret rfl rfl (by decide) ?_
    show zW _ _ _ _ _ _ _ _ _ _
    refine z_if_eqT rfl (by decide) (by decide) ?_
    refine z_pushI (z := (-13)) rfl rfl ?_
    refine z_iret rfl rfl ?_
    show zW _ _ _ _ _ _ _ _ _ _
    refine z_istore rfl rfl ?_
    refine z_iload rfl rfl ?_
    refine z_if_geF rfl (by decide) (by decide) ?_
    refine z_iload rfl rfl ?_
    refine z_iret rfl rfl ?_
    refine ⟨?_, ?_⟩
    · first | rfl | exact congrArg (fun v => some (zi v)) (by omega) | (exfalso; omega)
    · exact hr
  · refine z_iload rfl rfl ?_
    refine z_aload rfl rfl ?_
    refine z_getI (v := J 46 3) rfl rfl (rfl) ?_
    refine z_icmp_ge rfl (by omega) (by omega) (fun h2 => ?_) (fun h2 => ?_)
    · refine z_pushI (z := (-13)) rfl rfl ?_
      refine z_iret rfl rfl ?_
      show zW _ _ _ _ _ _ _ _ _ _
      refine z_istore rfl rfl ?_
      refine z_iload rfl rfl ?_
      refine z_if_geF rfl (by decide) (by decide) ?_
      refine z_iload rfl rfl ?_
      refine z_iret rfl rfl ?_
      refine ⟨_, rfl, ?_⟩
      show zW _ _ _ _ [some (.ref 50), some (zi 4), some (zi i), some (zl v), none, none, none] _ _ _ _ _
      refine z_aload rfl rfl ?_
      refine z_iload rfl rfl ?_
      refine z_iload rfl rfl ?_
      refine z_callVi (As := [_, _]) (le := [some _, some _, some _]) rfl rfl rfl (Nat.le_of_ble_eq_true rfl) (Nat.le_of_ble_eq_true rfl) rfl ?_
      refine z_iload rfl rfl ?_
      refine z_callSi (As := [_]) (le := [some _]) rfl rfl (Nat.le_of_ble_eq_true rfl) (Nat.le_of_ble_eq_true rfl) rfl ?_
      refine z_iload rfl rfl ?_
      refine z_pushI (z := 0) rfl rfl ?_
      refine z_pushI (z := 5) rfl rfl ?_
      refine z_callSi (As := [_, _, _]) (le := [some _, some _, some _]) rfl rfl (Nat.le_of_ble_eq_true rfl) (Nat.le_of_ble_eq_true rfl) rfl ?_
      refine z_iload rfl rfl ?_
      refine z_iload rfl rfl ?_
      refine z_icmp_ltF rfl (by decide) (by decide) (by decide) ?_
      refine z_iload rfl rfl ?_
      refine z_iload rfl rfl ?_
      refine z_icmp_gtF rfl (by decide) (by decide) (by decide) ?_
      refine z_pushI (z := 1) rfl rfl ?_
      refine z_goto rfl ?_
      refine z_bret rfl rfl (by decide) ?_
      show zW _ _ _ _ _ _ _ _ _ _
      refine z_bret rfl rfl (by decide) ?_
      show zW _ _ _ _ _ _ _ _ _ _
      refine z_if_neT rfl (by decide) (by decide) ?_
      refine z_aload rfl rfl ?_
      refine z_getR (r := 83) rfl rfl (hRr _ rm_50_58 (by decide)) ?_
      refine z_iload rfl rfl ?_
      refine z_iald (v := (-2)) rfl rfl (by decide) (by decide) ((e83.trans (by rw [hso]; rfl))) ?_
      refine z_pushI (z := (-1)) rfl rfl ?_
      refine z_icmp_neT rfl (by decide) (by decide) (by decide) ?_
      refine z_aload rfl rfl ?_
      refine z_getR (r := 83) rfl rfl (hRr _ rm_50_58 (by decide)) ?_
      refine z_iload rfl rfl ?_
      refine z_iald (v := (-2)) rfl rfl (by decide) (by decide) ((e83.trans (by rw [hso]; rfl))) ?_
      refine z_if_ltT rfl (by decide) (by decide) ?_
      refine z_iload rfl rfl ?_
      refine z_pushI (z := 0) rfl rfl ?_
      refine z_aload rfl rfl ?_
      refine z_getR (r := 84) rfl rfl (hRr _ rm_50_59 (by decide)) ?_
      refine z_iload rfl rfl ?_
      refine z_iald (v := J 46 3) rfl rfl (by decide) (by decide) (s7) ?_
      refine z_pushI (z := 1) rfl rfl ?_
      refine z_isub (e := (J 46 3) - 1) rfl rfl ?_
      refine z_callSi (As := [_, _, _]) (le := [some _, some _, some _]) rfl rfl (Nat.le_of_ble_eq_true rfl) (Nat.le_of_ble_eq_true rfl) rfl ?_
      refine z_iload rfl rfl ?_
      refine z_iload rfl rfl ?_
      refine z_icmp_ltF rfl (by omega) (by decide) (by omega) ?_
      refine z_iload rfl rfl ?_
      refine z_iload rfl rfl ?_
      refine z_icmp_gtT rfl (by omega) (by omega) (by omega) ?_
      refine z_pushI (z := 0) rfl rfl ?_
      refine z_bret rfl rfl (by decide) ?_
      show zW _ _ _ _ _ _ _ _ _ _
      refine z_if_eqT rfl (by decide) (by decide) ?_
      refine z_pushI (z := (-13)) rfl rfl ?_
      refine z_iret rfl rfl ?_
      show zW _ _ _ _ _ _ _ _ _ _
      refine z_istore rfl rfl ?_
      refine z_iload rfl rfl ?_
      refine z_if_geF rfl (by decide) (by decide) ?_
      refine z_iload rfl rfl ?_
      refine z_iret rfl rfl ?_
      refine ⟨?_, ?_⟩
      · first | rfl | exact congrArg (fun v => some (zi v)) (by omega) | (exfalso; omega)
      · exact hr
    · refine z_pushI (z := 0) rfl rfl ?_
      refine z_goto rfl ?_
      refine z_iret rfl rfl ?_
      show zW _ _ _ _ _ _ _ _ _ _
      refine z_istore rfl rfl ?_
      refine z_iload rfl rfl ?_
      refine z_if_geT rfl (by decide) (by decide) ?_
      refine z_aload rfl rfl ?_
      refine z_getR (r := 37) rfl rfl (hR _ rm_0_11) ?_
      refine z_iload rfl rfl ?_
      refine z_aald (r := 46) rfl rfl (by decide) (by decide) (hR _ rm_37_4) ?_
      refine z_iload rfl rfl ?_
      refine z_lload rfl rfl ?_
      refine z_callVi (As := [_, _]) (le := [some _, some _, some _, none]) rfl rfl rfl (Nat.le_of_ble_eq_true rfl) (Nat.le_of_ble_eq_true rfl) rfl ?_
      refine z_iload rfl rfl ?_
      refine z_if_ltF rfl (by omega) (by omega) ?_
      refine z_iload rfl rfl ?_
      refine z_aload rfl rfl ?_
      refine z_getI (v := J 46 3) rfl rfl (rfl) ?_
      refine z_icmp_geF rfl (by omega) (by omega) (by omega) ?_
      refine z_aload rfl rfl ?_
      refine z_getR (r := 47) rfl rfl (hR _ rm_46_4) ?_
      refine z_iload rfl rfl ?_
      refine z_aload rfl rfl ?_
      refine z_lload rfl rfl ?_
      refine z_callVi (As := [_]) (le := [some _, some _, none]) rfl rfl rfl (Nat.le_of_ble_eq_true rfl) (Nat.le_of_ble_eq_true rfl) rfl ?_
      refine z_aload rfl rfl ?_
      refine z_getI (v := 0) rfl rfl (hso) ?_
      refine z_swI (tg := 40) rfl (by decide) (T := [((0 : Int), 40), ((1 : Int), 45), ((2 : Int), 50), ((3 : Int), 66), ((4 : Int), 54)]) rfl (by decide) ?_
      refine z_lload rfl rfl ?_
      refine z_l2i rfl ?_
      refine z_i2b (e := zb v) rfl rfl ?_
      have q3 := zb_r v
      refine z_i2l rfl (by omega) ?_
      refine z_lret rfl rfl ?_
      show zW _ _ _ _ _ _ _ _ _ _
      refine z_last (e := zb v) rfl rfl (by decide) (by omega) rfl ?_
      refine z_vret rfl rfl ?_
      show zW _ _ _ _ _ _ _ _ _ _
      refine z_pushI (z := 1) rfl rfl ?_
      refine z_iret rfl rfl ?_
      refine ⟨_, rfl, ?_⟩
      show zW _ _ _ _ [some (.ref 50), some (zi 4), some (zi i), some (zl v), none, none, none] _ _ _ _ _
      refine z_aload rfl rfl ?_
      refine z_iload rfl rfl ?_
      refine z_iload rfl rfl ?_
      refine z_callVi (As := [_, _]) (le := [some _, some _, some _]) rfl rfl rfl (Nat.le_of_ble_eq_true rfl) (Nat.le_of_ble_eq_true rfl) rfl ?_
      refine z_iload rfl rfl ?_
      refine z_callSi (As := [_]) (le := [some _]) rfl rfl (Nat.le_of_ble_eq_true rfl) (Nat.le_of_ble_eq_true rfl) rfl ?_
      refine z_iload rfl rfl ?_
      refine z_pushI (z := 0) rfl rfl ?_
      refine z_pushI (z := 5) rfl rfl ?_
      refine z_callSi (As := [_, _, _]) (le := [some _, some _, some _]) rfl rfl (Nat.le_of_ble_eq_true rfl) (Nat.le_of_ble_eq_true rfl) rfl ?_
      refine z_iload rfl rfl ?_
      refine z_iload rfl rfl ?_
      refine z_icmp_ltF rfl (by decide) (by decide) (by decide) ?_
      refine z_iload rfl rfl ?_
      refine z_iload rfl rfl ?_
      refine z_icmp_gtF rfl (by decide) (by decide) (by decide) ?_
      refine z_pushI (z := 1) rfl rfl ?_
      refine z_goto rfl ?_
      refine z_bret rfl rfl (by decide) ?_
      show zW _ _ _ _ _ _ _ _ _ _
      refine z_bret rfl rfl (by decide) ?_
      show zW _ _ _ _ _ _ _ _ _ _
      refine z_if_neT rfl (by decide) (by decide) ?_
      refine z_aload rfl rfl ?_
      refine z_getR (r := 83) rfl rfl (hRr _ rm_50_58 (by decide)) ?_
      refine z_iload rfl rfl ?_
      refine z_iald (v := (-2)) rfl rfl (by decide) (by decide) ((e83.trans (by rw [hso]; rfl))) ?_
      refine z_pushI (z := (-1)) rfl rfl ?_
      refine z_icmp_neT rfl (by decide) (by decide) (by decide) ?_
      refine z_aload rfl rfl ?_
      refine z_getR (r := 83) rfl rfl (hRr _ rm_50_58 (by decide)) ?_
      refine z_iload rfl rfl ?_
      refine z_iald (v := (-2)) rfl rfl (by decide) (by decide) ((e83.trans (by rw [hso]; rfl))) ?_
      refine z_if_ltT rfl (by decide) (by decide) ?_
      refine z_iload rfl rfl ?_
      refine z_pushI (z := 0) rfl rfl ?_
      refine z_aload rfl rfl ?_
      refine z_getR (r := 84) rfl rfl (hRr _ rm_50_59 (by decide)) ?_
      refine z_iload rfl rfl ?_
      refine z_iald (v := J 46 3) rfl rfl (by decide) (by decide) (s7) ?_
      refine z_pushI (z := 1) rfl rfl ?_
      refine z_isub (e := (J 46 3) - 1) rfl rfl ?_
      refine z_callSi (As := [_, _, _]) (le := [some _, some _, some _]) rfl rfl (Nat.le_of_ble_eq_true rfl) (Nat.le_of_ble_eq_true rfl) rfl ?_
      refine z_iload rfl rfl ?_
      refine z_iload rfl rfl ?_
      refine z_icmp_ltF rfl (by omega) (by decide) (by omega) ?_
      refine z_iload rfl rfl ?_
      refine z_iload rfl rfl ?_
      refine z_icmp_gtF rfl (by omega) (by omega) (by omega) ?_
      refine z_pushI (z := 1) rfl rfl ?_
      refine z_goto rfl ?_
      refine z_bret rfl rfl (by decide) ?_
      show zW _ _ _ _ _ _ _ _ _ _
      refine z_if_eqF rfl (by decide) (by decide) ?_
      refine z_pushI (z := 0) rfl rfl ?_
      refine z_goto rfl ?_
      refine z_iret rfl rfl ?_
      show zW _ _ _ _ _ _ _ _ _ _
      refine z_istore rfl rfl ?_
      refine z_iload rfl rfl ?_
      refine z_if_geT rfl (by decide) (by decide) ?_
      refine z_pushI (z := (-2)) rfl rfl ?_
      refine z_aload rfl rfl ?_
      refine z_getR (r := 83) rfl rfl (hRr _ rm_50_58 (by decide)) ?_
      refine z_iload rfl rfl ?_
      refine z_iald (v := (-2)) rfl rfl (by decide) (by decide) ((e83.trans (by rw [hso]; rfl))) ?_
      refine z_isub (e := 0) rfl rfl ?_
      refine z_istore rfl rfl ?_
      refine z_aload rfl rfl ?_
      refine z_getR (r := 85) rfl rfl (hRr _ rm_50_60 (by decide)) ?_
      refine z_pushI (z := 60) rfl rfl ?_
      refine z_iload rfl rfl ?_
      refine z_imul (e := 240) rfl rfl ?_
      refine z_iload rfl rfl ?_
      refine z_iadd (e := 240 + i) rfl rfl ?_
      refine z_iload rfl rfl ?_
      refine z_if_neF rfl (by decide) (by decide) ?_
      refine z_lload rfl rfl ?_
      refine z_l2i rfl ?_
      refine z_i2b (e := zb v) rfl rfl ?_
      have q4 := zb_r v
      refine z_i2l rfl (by omega) ?_
      refine z_goto rfl ?_
      refine z_last (e := zb v) rfl rfl (by decide) (by omega) rfl ?_
      refine z_pushI (z := 1) rfl rfl ?_
      refine z_iret rfl rfl ?_
      refine ⟨?_, ?_⟩
      · first | rfl | exact congrArg (fun v => some (zi v)) (by omega) | (exfalso; omega)
      · have hk := (zK_r (k := (kL [] [])) (A := J))
        have hkm := (zK_x (a := 85) (x := 240 + i) (v := zb v) (zK_x (a := 47) (x := i) (v := zb v) (zK_r (k := (kL [47, 85] [])) (A := M)) rfl) rfl)
        exact ⟨hR, hG, RelY_k hk (by repeat' constructor) (fun p => by repeat' constructor) hY, RelD_k hk (by repeat' constructor) (fun p => by repeat' constructor) hD, RelP_k hk (by repeat' constructor) (fun p => by repeat' constructor) hP, RelC_k hk (by repeat' constructor) (fun p => by repeat' constructor) hC, RelA_k hk (by repeat' constructor) (fun p => by repeat' constructor) hAc, (RelS_one (J := J) (M := M) (c := 4) (fun t t1 t2 te => by have q : t = 0 ∨ t = 1 ∨ t = 2 ∨ t = 3 ∨ t = 4 ∨ t = 5 := (by omega); rcases q with rfl | rfl | rfl | rfl | rfl | rfl <;> first | exact absurd rfl te | exact ⟨fun j => rfl, rfl, rfl⟩) (fun t t1 t2 te => by have q : t = 0 ∨ t = 1 ∨ t = 2 ∨ t = 3 ∨ t = 4 ∨ t = 5 := (by omega); rcases q with rfl | rfl | rfl | rfl | rfl | rfl <;> first | exact absurd rfl te | exact ⟨fun j => rfl, fun j j1 j2 => (zU_x (by omega)).trans (zU_n (by decide))⟩) rfl (show RelS1 _ _ _ from ⟨(hS 4 (by decide) (by decide)).1, (hS 4 (by decide) (by decide)).2.1, s3, s4, (hS 4 (by decide) (by decide)).2.2.2.2.1, fun _ => ⟨s7.symm, fun k k1 k2 => by show (if k = i then zb v else M 47 k) = (if 240 + k = 240 + i then zb v else M 85 (240 + k)); by_cases e : k = i; rw [if_pos e, if_pos (by omega)]; rw [if_neg e, if_neg (by omega)]; exact s8 k k1 k2, (fun hq k k1 k2 => by show -128 ≤ (if k = i then zb v else M 47 k) ∧ (if k = i then zb v else M 47 k) ≤ 127; split <;> first | (have := zb_r v; omega) | exact s6.2.2 hq k k1 k2)⟩⟩) hS), RelT_k hk (by repeat' constructor) (fun p => by repeat' constructor) hTp, RelX_k hk (by repeat' constructor) (fun p => by repeat' constructor) hX, RelW_k hk ⟨rfl, rfl⟩ trivial hW⟩
theorem st_put_421 {X : Nat × (Nat → Int32)} {d : Nat} {J M : zA} {R : zR} {i v : Int} (hr : Rel X J M R) (hi : -2147483648 ≤ i ∧ i < 2147483648) (hv : -9223372036854775808 ≤ v ∧ v < 9223372036854775808) (hh : J 46 0 = 2) (hso : J 46 2 = 1) : zW X (d + 20) 138 0 (gEn 138 [(.ref 0), (zi 4), (zi i), (zl v)]) [] J M R (stP X (d + 20) 252 [(zi 4), (zi i), (zl v)]) := by
  have hr0 := hr
  obtain ⟨hR, hG, hY, hD, hP, hC, hAc, hS, hTp, hX, hW⟩ := hr0
  have hRr : zRoR R := zRoR_of hR
  have e83 : J 83 4 = -2 - J 46 2 := (hS 4 (by decide) (by decide)).1.symm.trans (cH_2 hh)
  have s3 : 0 ≤ J 46 2 ∧ J 46 2 ≤ 4 := (hS 4 (by decide) (by decide)).2.2.1
  have s4 : 0 ≤ J 46 3 ∧ J 46 3 ≤ 60 := (hS 4 (by decide) (by decide)).2.2.2.1
  have s6 := (hS 4 (by decide) (by decide)).2.2.2.2.2 hh
  have s7 : J 84 4 = J 46 3 := s6.1.symm
  have s8 : ∀ i, 0 ≤ i → i < J 46 3 → M 47 i = M 85 (240 + i) := s6.2.1
  show zW _ _ _ _ [some (.ref 0), some (zi 4), some (zi i), some (zl v), none, none] _ _ _ _ _
  refine z_iload rfl rfl ?_
  refine z_callSi (As := [_]) (le := [some _]) rfl rfl (Nat.le_of_ble_eq_true rfl) (Nat.le_of_ble_eq_true rfl) rfl ?_
  refine z_iload rfl rfl ?_
  refine z_if_ltF rfl (by decide) (by decide) ?_
  refine z_iload rfl rfl ?_
  refine z_pushI (z := 6) rfl rfl ?_
  refine z_icmp_geF rfl (by decide) (by decide) (by decide) ?_
  refine z_pushI (z := 1) rfl rfl ?_
  refine z_goto rfl ?_
  refine z_bret rfl rfl (by decide) ?_
  show zW _ _ _ _ _ _ _ _ _ _
  refine z_if_neT rfl (by decide) (by decide) ?_
  refine z_aload rfl rfl ?_
  refine z_getR (r := 37) rfl rfl (hR _ rm_0_11) ?_
  refine z_iload rfl rfl ?_
  refine z_aald (r := 46) rfl rfl (by decide) (by decide) (hR _ rm_37_4) ?_
  refine z_iload rfl rfl ?_
  refine z_callVi (As := [_]) (le := [some _, some _]) rfl rfl rfl (Nat.le_of_ble_eq_true rfl) (Nat.le_of_ble_eq_true rfl) rfl ?_
  refine z_aload rfl rfl ?_
  refine z_getI (v := 2) rfl rfl (hh) ?_
  refine z_if_neT rfl (by decide) (by decide) ?_
  refine z_aload rfl rfl ?_
  refine z_getI (v := 2) rfl rfl (hh) ?_
  refine z_pushI (z := 2) rfl rfl ?_
  refine z_icmp_eqT rfl (by decide) (by decide) (by decide) ?_
  refine z_iload rfl rfl ?_
  refine z_if_lt rfl (by omega) (fun h1 => ?_) (fun h1 => ?_)
  · refine z_pushI (z := (-13)) rfl rfl ?_
    refine z_iret rfl rfl ?_
    show zW _ _ _ _ _ _ _ _ _ _
    refine z_istore rfl rfl ?_
    refine z_iload rfl rfl ?_
    refine z_if_geF rfl (by decide) (by decide) ?_
    refine z_iload rfl rfl ?_
    refine z_iret rfl rfl ?_
    refine ⟨_, rfl, ?_⟩
    show zW _ _ _ _ [some (.ref 50), some (zi 4), some (zi i), some (zl v), none, none, none] _ _ _ _ _
    refine z_aload rfl rfl ?_
    refine z_iload rfl rfl ?_
    refine z_iload rfl rfl ?_
    refine z_callVi (As := [_, _]) (le := [some _, some _, some _]) rfl rfl rfl (Nat.le_of_ble_eq_true rfl) (Nat.le_of_ble_eq_true rfl) rfl ?_
    refine z_iload rfl rfl ?_
    refine z_callSi (As := [_]) (le := [some _]) rfl rfl (Nat.le_of_ble_eq_true rfl) (Nat.le_of_ble_eq_true rfl) rfl ?_
    refine z_iload rfl rfl ?_
    refine z_pushI (z := 0) rfl rfl ?_
    refine z_pushI (z := 5) rfl rfl ?_
    refine z_callSi (As := [_, _, _]) (le := [some _, some _, some _]) rfl rfl (Nat.le_of_ble_eq_true rfl) (Nat.le_of_ble_eq_true rfl) rfl ?_
    refine z_iload rfl rfl ?_
    refine z_iload rfl rfl ?_
    refine z_icmp_ltF rfl (by decide) (by decide) (by decide) ?_
    refine z_iload rfl rfl ?_
    refine z_iload rfl rfl ?_
    refine z_icmp_gtF rfl (by decide) (by decide) (by decide) ?_
    refine z_pushI (z := 1) rfl rfl ?_
    refine z_goto rfl ?_
    refine z_bret rfl rfl (by decide) ?_
    show zW _ _ _ _ _ _ _ _ _ _
    refine z_bret rfl rfl (by decide) ?_
    show zW _ _ _ _ _ _ _ _ _ _
    refine z_if_neT rfl (by decide) (by decide) ?_
    refine z_aload rfl rfl ?_
    refine z_getR (r := 83) rfl rfl (hRr _ rm_50_58 (by decide)) ?_
    refine z_iload rfl rfl ?_
    refine z_iald (v := (-3)) rfl rfl (by decide) (by decide) ((e83.trans (by rw [hso]; rfl))) ?_
    refine z_pushI (z := (-1)) rfl rfl ?_
    refine z_icmp_neT rfl (by decide) (by decide) (by decide) ?_
    refine z_aload rfl rfl ?_
    refine z_getR (r := 83) rfl rfl (hRr _ rm_50_58 (by decide)) ?_
    refine z_iload rfl rfl ?_
    refine z_iald (v := (-3)) rfl rfl (by decide) (by decide) ((e83.trans (by rw [hso]; rfl))) ?_
    refine z_if_ltT rfl (by decide) (by decide) ?_
    refine z_iload rfl rfl ?_
    refine z_pushI (z := 0) rfl rfl ?_
    refine z_aload rfl rfl ?_
    refine z_getR (r := 84) rfl rfl (hRr _ rm_50_59 (by decide)) ?_
    refine z_iload rfl rfl ?_
    refine z_iald (v := J 46 3) rfl rfl (by decide) (by decide) (s7) ?_
    refine z_pushI (z := 1) rfl rfl ?_
    refine z_isub (e := (J 46 3) - 1) rfl rfl ?_
    refine z_callSi (As := [_, _, _]) (le := [some _, some _, some _]) rfl rfl (Nat.le_of_ble_eq_true rfl) (Nat.le_of_ble_eq_true rfl) rfl ?_
    refine z_iload rfl rfl ?_
    refine z_iload rfl rfl ?_
    refine z_icmp_ltT rfl (by omega) (by decide) (by omega) ?_
    refine z_pushI (z := 0) rfl rfl ?_
    refine z_bret rfl rfl (by decide) ?_
    show zW _ _ _ _ _ _ _ _ _ _
    refine z_if_eqT rfl (by decide) (by decide) ?_
    refine z_pushI (z := (-13)) rfl rfl ?_
    refine z_iret rfl rfl ?_
    show zW _ _ _ _ _ _ _ _ _ _
    refine z_istore rfl rfl ?_
    refine z_iload rfl rfl ?_
    refine z_if_geF rfl (by decide) (by decide) ?_
    refine z_iload rfl rfl ?_
    refine z_iret rfl rfl ?_
    refine ⟨?_, ?_⟩
    · first | rfl | exact congrArg (fun v => some (zi v)) (by omega) | (exfalso; omega)
    · exact hr
  · refine z_iload rfl rfl ?_
    refine z_aload rfl rfl ?_
    refine z_getI (v := J 46 3) rfl rfl (rfl) ?_
    refine z_icmp_ge rfl (by omega) (by omega) (fun h2 => ?_) (fun h2 => ?_)
    · refine z_pushI (z := (-13)) rfl rfl ?_
      refine z_iret rfl rfl ?_
      show zW _ _ _ _ _ _ _ _ _ _
      refine z_istore rfl rfl ?_
      refine z_iload rfl rfl ?_
      refine z_if_geF rfl (by decide) (by decide) ?_
      refine z_iload rfl rfl ?_
      refine z_iret rfl rfl ?_
      refine ⟨_, rfl, ?_⟩
      show zW _ _ _ _ [some (.ref 50), some (zi 4), some (zi i), some (zl v), none, none, none] _ _ _ _ _
      refine z_aload rfl rfl ?_
      refine z_iload rfl rfl ?_
      refine z_iload rfl rfl ?_
      refine z_callVi (As := [_, _]) (le := [some _, some _, some _]) rfl rfl rfl (Nat.le_of_ble_eq_true rfl) (Nat.le_of_ble_eq_true rfl) rfl ?_
      refine z_iload rfl rfl ?_
      refine z_callSi (As := [_]) (le := [some _]) rfl rfl (Nat.le_of_ble_eq_true rfl) (Nat.le_of_ble_eq_true rfl) rfl ?_
      refine z_iload rfl rfl ?_
      refine z_pushI (z := 0) rfl rfl ?_
      refine z_pushI (z := 5) rfl rfl ?_
      refine z_callSi (As := [_, _, _]) (le := [some _, some _, some _]) rfl rfl (Nat.le_of_ble_eq_true rfl) (Nat.le_of_ble_eq_true rfl) rfl ?_
      refine z_iload rfl rfl ?_
      refine z_iload rfl rfl ?_
      refine z_icmp_ltF rfl (by decide) (by decide) (by decide) ?_
      refine z_iload rfl rfl ?_
      refine z_iload rfl rfl ?_
      refine z_icmp_gtF rfl (by decide) (by decide) (by decide) ?_
      refine z_pushI (z := 1) rfl rfl ?_
      refine z_goto rfl ?_
      refine z_bret rfl rfl (by decide) ?_
      show zW _ _ _ _ _ _ _ _ _ _
      refine z_bret rfl rfl (by decide) ?_
      show zW _ _ _ _ _ _ _ _ _ _
      refine z_if_neT rfl (by decide) (by decide) ?_
      refine z_aload rfl rfl ?_
      refine z_getR (r := 83) rfl rfl (hRr _ rm_50_58 (by decide)) ?_
      refine z_iload rfl rfl ?_
      refine z_iald (v := (-3)) rfl rfl (by decide) (by decide) ((e83.trans (by rw [hso]; rfl))) ?_
      refine z_pushI (z := (-1)) rfl rfl ?_
      refine z_icmp_neT rfl (by decide) (by decide) (by decide) ?_
      refine z_aload rfl rfl ?_
      refine z_getR (r := 83) rfl rfl (hRr _ rm_50_58 (by decide)) ?_
      refine z_iload rfl rfl ?_
      refine z_iald (v := (-3)) rfl rfl (by decide) (by decide) ((e83.trans (by rw [hso]; rfl))) ?_
      refine z_if_ltT rfl (by decide) (by decide) ?_
      refine z_iload rfl rfl ?_
      refine z_pushI (z := 0) rfl rfl ?_
      refine z_aload rfl rfl ?_
      refine z_getR (r := 84) rfl rfl (hRr _ rm_50_59 (by decide)) ?_
      refine z_iload rfl rfl ?_
      refine z_iald (v := J 46 3) rfl rfl (by decide) (by decide) (s7) ?_
      refine z_pushI (z := 1) rfl rfl ?_
      refine z_isub (e := (J 46 3) - 1) rfl rfl ?_
      refine z_callSi (As := [_, _, _]) (le := [some _, some _, some _]) rfl rfl (Nat.le_of_ble_eq_true rfl) (Nat.le_of_ble_eq_true rfl) rfl ?_
      refine z_iload rfl rfl ?_
      refine z_iload rfl rfl ?_
      refine z_icmp_ltF rfl (by omega) (by decide) (by omega) ?_
      refine z_iload rfl rfl ?_
      refine z_iload rfl rfl ?_
      refine z_icmp_gtT rfl (by omega) (by omega) (by omega) ?_
      refine z_pushI (z := 0) rfl rfl ?_
      refine z_bret rfl rfl (by decide) ?_
      show zW _ _ _ _ _ _ _ _ _ _
      refine z_if_eqT rfl (by decide) (by decide) ?_
      refine z_pushI (z := (-13)) rfl rfl ?_
      refine z_iret rfl rfl ?_
      show zW _ _ _ _ _ _ _ _ _ _
      refine z_istore rfl rfl ?_
      refine z_iload rfl rfl ?_
      refine z_if_geF rfl (by decide) (by decide) ?_
      refine z_iload rfl rfl ?_
      refine z_iret rfl rfl ?_
      refine ⟨?_, ?_⟩
      · first | rfl | exact congrArg (fun v => some (zi v)) (by omega) | (exfalso; omega)
      · exact hr
    · refine z_pushI (z := 0) rfl rfl ?_
      refine z_goto rfl ?_
      refine z_iret rfl rfl ?_
      show zW _ _ _ _ _ _ _ _ _ _
      refine z_istore rfl rfl ?_
      refine z_iload rfl rfl ?_
      refine z_if_geT rfl (by decide) (by decide) ?_
      refine z_aload rfl rfl ?_
      refine z_getR (r := 37) rfl rfl (hR _ rm_0_11) ?_
      refine z_iload rfl rfl ?_
      refine z_aald (r := 46) rfl rfl (by decide) (by decide) (hR _ rm_37_4) ?_
      refine z_iload rfl rfl ?_
      refine z_lload rfl rfl ?_
      refine z_callVi (As := [_, _]) (le := [some _, some _, some _, none]) rfl rfl rfl (Nat.le_of_ble_eq_true rfl) (Nat.le_of_ble_eq_true rfl) rfl ?_
      refine z_iload rfl rfl ?_
      refine z_if_ltF rfl (by omega) (by omega) ?_
      refine z_iload rfl rfl ?_
      refine z_aload rfl rfl ?_
      refine z_getI (v := J 46 3) rfl rfl (rfl) ?_
      refine z_icmp_geF rfl (by omega) (by omega) (by omega) ?_
      refine z_aload rfl rfl ?_
      refine z_getR (r := 47) rfl rfl (hR _ rm_46_4) ?_
      refine z_iload rfl rfl ?_
      refine z_aload rfl rfl ?_
      refine z_lload rfl rfl ?_
      refine z_callVi (As := [_]) (le := [some _, some _, none]) rfl rfl rfl (Nat.le_of_ble_eq_true rfl) (Nat.le_of_ble_eq_true rfl) rfl ?_
      refine z_aload rfl rfl ?_
      refine z_getI (v := 1) rfl rfl (hso) ?_
      refine z_swI (tg := 45) rfl (by decide) (T := [((0 : Int), 40), ((1 : Int), 45), ((2 : Int), 50), ((3 : Int), 66), ((4 : Int), 54)]) rfl (by decide) ?_
      refine z_lload rfl rfl ?_
      refine z_l2i rfl ?_
      refine z_i2s (e := zh v) rfl rfl ?_
      have q3 := zh_r v
      refine z_i2l rfl (by omega) ?_
      refine z_lret rfl rfl ?_
      show zW _ _ _ _ _ _ _ _ _ _
      refine z_last (e := zh v) rfl rfl (by decide) (by omega) rfl ?_
      refine z_vret rfl rfl ?_
      show zW _ _ _ _ _ _ _ _ _ _
      refine z_pushI (z := 1) rfl rfl ?_
      refine z_iret rfl rfl ?_
      refine ⟨_, rfl, ?_⟩
      show zW _ _ _ _ [some (.ref 50), some (zi 4), some (zi i), some (zl v), none, none, none] _ _ _ _ _
      refine z_aload rfl rfl ?_
      refine z_iload rfl rfl ?_
      refine z_iload rfl rfl ?_
      refine z_callVi (As := [_, _]) (le := [some _, some _, some _]) rfl rfl rfl (Nat.le_of_ble_eq_true rfl) (Nat.le_of_ble_eq_true rfl) rfl ?_
      refine z_iload rfl rfl ?_
      refine z_callSi (As := [_]) (le := [some _]) rfl rfl (Nat.le_of_ble_eq_true rfl) (Nat.le_of_ble_eq_true rfl) rfl ?_
      refine z_iload rfl rfl ?_
      refine z_pushI (z := 0) rfl rfl ?_
      refine z_pushI (z := 5) rfl rfl ?_
      refine z_callSi (As := [_, _, _]) (le := [some _, some _, some _]) rfl rfl (Nat.le_of_ble_eq_true rfl) (Nat.le_of_ble_eq_true rfl) rfl ?_
      refine z_iload rfl rfl ?_
      refine z_iload rfl rfl ?_
      refine z_icmp_ltF rfl (by decide) (by decide) (by decide) ?_
      refine z_iload rfl rfl ?_
      refine z_iload rfl rfl ?_
      refine z_icmp_gtF rfl (by decide) (by decide) (by decide) ?_
      refine z_pushI (z := 1) rfl rfl ?_
      refine z_goto rfl ?_
      refine z_bret rfl rfl (by decide) ?_
      show zW _ _ _ _ _ _ _ _ _ _
      refine z_bret rfl rfl (by decide) ?_
      show zW _ _ _ _ _ _ _ _ _ _
      refine z_if_neT rfl (by decide) (by decide) ?_
      refine z_aload rfl rfl ?_
      refine z_getR (r := 83) rfl rfl (hRr _ rm_50_58 (by decide)) ?_
      refine z_iload rfl rfl ?_
      refine z_iald (v := (-3)) rfl rfl (by decide) (by decide) ((e83.trans (by rw [hso]; rfl))) ?_
      refine z_pushI (z := (-1)) rfl rfl ?_
      refine z_icmp_neT rfl (by decide) (by decide) (by decide) ?_
      refine z_aload rfl rfl ?_
      refine z_getR (r := 83) rfl rfl (hRr _ rm_50_58 (by decide)) ?_
      refine z_iload rfl rfl ?_
      refine z_iald (v := (-3)) rfl rfl (by decide) (by decide) ((e83.trans (by rw [hso]; rfl))) ?_
      refine z_if_ltT rfl (by decide) (by decide) ?_
      refine z_iload rfl rfl ?_
      refine z_pushI (z := 0) rfl rfl ?_
      refine z_aload rfl rfl ?_
      refine z_getR (r := 84) rfl rfl (hRr _ rm_50_59 (by decide)) ?_
      refine z_iload rfl rfl ?_
      refine z_iald (v := J 46 3) rfl rfl (by decide) (by decide) (s7) ?_
      refine z_pushI (z := 1) rfl rfl ?_
      refine z_isub (e := (J 46 3) - 1) rfl rfl ?_
      refine z_callSi (As := [_, _, _]) (le := [some _, some _, some _]) rfl rfl (Nat.le_of_ble_eq_true rfl) (Nat.le_of_ble_eq_true rfl) rfl ?_
      refine z_iload rfl rfl ?_
      refine z_iload rfl rfl ?_
      refine z_icmp_ltF rfl (by omega) (by decide) (by omega) ?_
      refine z_iload rfl rfl ?_
      refine z_iload rfl rfl ?_
      refine z_icmp_gtF rfl (by omega) (by omega) (by omega) ?_
      refine z_pushI (z := 1) rfl rfl ?_
      refine z_goto rfl ?_
      refine z_bret rfl rfl (by decide) ?_
      show zW _ _ _ _ _ _ _ _ _ _
      refine z_if_eqF rfl (by decide) (by decide) ?_
      refine z_pushI (z := 0) rfl rfl ?_
      refine z_goto rfl ?_
      refine z_iret rfl rfl ?_
      show zW _ _ _ _ _ _ _ _ _ _
      refine z_istore rfl rfl ?_
      refine z_iload rfl rfl ?_
      refine z_if_geT rfl (by decide) (by decide) ?_
      refine z_pushI (z := (-2)) rfl rfl ?_
      refine z_aload rfl rfl ?_
      refine z_getR (r := 83) rfl rfl (hRr _ rm_50_58 (by decide)) ?_
      refine z_iload rfl rfl ?_
      refine z_iald (v := (-3)) rfl rfl (by decide) (by decide) ((e83.trans (by rw [hso]; rfl))) ?_
      refine z_isub (e := 1) rfl rfl ?_
      refine z_istore rfl rfl ?_
      refine z_aload rfl rfl ?_
      refine z_getR (r := 85) rfl rfl (hRr _ rm_50_60 (by decide)) ?_
      refine z_pushI (z := 60) rfl rfl ?_
      refine z_iload rfl rfl ?_
      refine z_imul (e := 240) rfl rfl ?_
      refine z_iload rfl rfl ?_
      refine z_iadd (e := 240 + i) rfl rfl ?_
      refine z_iload rfl rfl ?_
      refine z_if_neT rfl (by decide) (by decide) ?_
      refine z_iload rfl rfl ?_
      refine z_pushI (z := 1) rfl rfl ?_
      refine z_icmp_neF rfl (by decide) (by decide) (by decide) ?_
      refine z_lload rfl rfl ?_
      refine z_l2i rfl ?_
      refine z_i2s (e := zh v) rfl rfl ?_
      have q4 := zh_r v
      refine z_i2l rfl (by omega) ?_
      refine z_goto rfl ?_
      refine z_last (e := zh v) rfl rfl (by decide) (by omega) rfl ?_
      refine z_pushI (z := 1) rfl rfl ?_
      refine z_iret rfl rfl ?_
      refine ⟨?_, ?_⟩
      · first | rfl | exact congrArg (fun v => some (zi v)) (by omega) | (exfalso; omega)
      · have hk := (zK_r (k := (kL [] [])) (A := J))
        have hkm := (zK_x (a := 85) (x := 240 + i) (v := zh v) (zK_x (a := 47) (x := i) (v := zh v) (zK_r (k := (kL [47, 85] [])) (A := M)) rfl) rfl)
        exact ⟨hR, hG, RelY_k hk (by repeat' constructor) (fun p => by repeat' constructor) hY, RelD_k hk (by repeat' constructor) (fun p => by repeat' constructor) hD, RelP_k hk (by repeat' constructor) (fun p => by repeat' constructor) hP, RelC_k hk (by repeat' constructor) (fun p => by repeat' constructor) hC, RelA_k hk (by repeat' constructor) (fun p => by repeat' constructor) hAc, (RelS_one (J := J) (M := M) (c := 4) (fun t t1 t2 te => by have q : t = 0 ∨ t = 1 ∨ t = 2 ∨ t = 3 ∨ t = 4 ∨ t = 5 := (by omega); rcases q with rfl | rfl | rfl | rfl | rfl | rfl <;> first | exact absurd rfl te | exact ⟨fun j => rfl, rfl, rfl⟩) (fun t t1 t2 te => by have q : t = 0 ∨ t = 1 ∨ t = 2 ∨ t = 3 ∨ t = 4 ∨ t = 5 := (by omega); rcases q with rfl | rfl | rfl | rfl | rfl | rfl <;> first | exact absurd rfl te | exact ⟨fun j => rfl, fun j j1 j2 => (zU_x (by omega)).trans (zU_n (by decide))⟩) rfl (show RelS1 _ _ _ from ⟨(hS 4 (by decide) (by decide)).1, (hS 4 (by decide) (by decide)).2.1, s3, s4, (hS 4 (by decide) (by decide)).2.2.2.2.1, fun _ => ⟨s7.symm, fun k k1 k2 => by show (if k = i then zh v else M 47 k) = (if 240 + k = 240 + i then zh v else M 85 (240 + k)); by_cases e : k = i; rw [if_pos e, if_pos (by omega)]; rw [if_neg e, if_neg (by omega)]; exact s8 k k1 k2, (fun hq => absurd (Eq.trans (Eq.symm hq) hso) (by decide))⟩⟩) hS), RelT_k hk (by repeat' constructor) (fun p => by repeat' constructor) hTp, RelX_k hk (by repeat' constructor) (fun p => by repeat' constructor) hX, RelW_k hk ⟨rfl, rfl⟩ trivial hW⟩
theorem st_put_422 {X : Nat × (Nat → Int32)} {d : Nat} {J M : zA} {R : zR} {i v : Int} (hr : Rel X J M R) (hi : -2147483648 ≤ i ∧ i < 2147483648) (hv : -9223372036854775808 ≤ v ∧ v < 9223372036854775808) (hh : J 46 0 = 2) (hso : J 46 2 = 2) : zW X (d + 20) 138 0 (gEn 138 [(.ref 0), (zi 4), (zi i), (zl v)]) [] J M R (stP X (d + 20) 252 [(zi 4), (zi i), (zl v)]) := by
  have hr0 := hr
  obtain ⟨hR, hG, hY, hD, hP, hC, hAc, hS, hTp, hX, hW⟩ := hr0
  have hRr : zRoR R := zRoR_of hR
  have e83 : J 83 4 = -2 - J 46 2 := (hS 4 (by decide) (by decide)).1.symm.trans (cH_2 hh)
  have s3 : 0 ≤ J 46 2 ∧ J 46 2 ≤ 4 := (hS 4 (by decide) (by decide)).2.2.1
  have s4 : 0 ≤ J 46 3 ∧ J 46 3 ≤ 60 := (hS 4 (by decide) (by decide)).2.2.2.1
  have s6 := (hS 4 (by decide) (by decide)).2.2.2.2.2 hh
  have s7 : J 84 4 = J 46 3 := s6.1.symm
  have s8 : ∀ i, 0 ≤ i → i < J 46 3 → M 47 i = M 85 (240 + i) := s6.2.1
  show zW _ _ _ _ [some (.ref 0), some (zi 4), some (zi i), some (zl v), none, none] _ _ _ _ _
  refine z_iload rfl rfl ?_
  refine z_callSi (As := [_]) (le := [some _]) rfl rfl (Nat.le_of_ble_eq_true rfl) (Nat.le_of_ble_eq_true rfl) rfl ?_
  refine z_iload rfl rfl ?_
  refine z_if_ltF rfl (by decide) (by decide) ?_
  refine z_iload rfl rfl ?_
  refine z_pushI (z := 6) rfl rfl ?_
  refine z_icmp_geF rfl (by decide) (by decide) (by decide) ?_
  refine z_pushI (z := 1) rfl rfl ?_
  refine z_goto rfl ?_
  refine z_bret rfl rfl (by decide) ?_
  show zW _ _ _ _ _ _ _ _ _ _
  refine z_if_neT rfl (by decide) (by decide) ?_
  refine z_aload rfl rfl ?_
  refine z_getR (r := 37) rfl rfl (hR _ rm_0_11) ?_
  refine z_iload rfl rfl ?_
  refine z_aald (r := 46) rfl rfl (by decide) (by decide) (hR _ rm_37_4) ?_
  refine z_iload rfl rfl ?_
  refine z_callVi (As := [_]) (le := [some _, some _]) rfl rfl rfl (Nat.le_of_ble_eq_true rfl) (Nat.le_of_ble_eq_true rfl) rfl ?_
  refine z_aload rfl rfl ?_
  refine z_getI (v := 2) rfl rfl (hh) ?_
  refine z_if_neT rfl (by decide) (by decide) ?_
  refine z_aload rfl rfl ?_
  refine z_getI (v := 2) rfl rfl (hh) ?_
  refine z_pushI (z := 2) rfl rfl ?_
  refine z_icmp_eqT rfl (by decide) (by decide) (by decide) ?_
  refine z_iload rfl rfl ?_
  refine z_if_lt rfl (by omega) (fun h1 => ?_) (fun h1 => ?_)
  · refine z_pushI (z := (-13)) rfl rfl ?_
    refine z_iret rfl rfl ?_
    show zW _ _ _ _ _ _ _ _ _ _
    refine z_istore rfl rfl ?_
    refine z_iload rfl rfl ?_
    refine z_if_geF rfl (by decide) (by decide) ?_
    refine z_iload rfl rfl ?_
    refine z_iret rfl rfl ?_
    refine ⟨_, rfl, ?_⟩
    show zW _ _ _ _ [some (.ref 50), some (zi 4), some (zi i), some (zl v), none, none, none] _ _ _ _ _
    refine z_aload rfl rfl ?_
    refine z_iload rfl rfl ?_
    refine z_iload rfl rfl ?_
    refine z_callVi (As := [_, _]) (le := [some _, some _, some _]) rfl rfl rfl (Nat.le_of_ble_eq_true rfl) (Nat.le_of_ble_eq_true rfl) rfl ?_
    refine z_iload rfl rfl ?_
    refine z_callSi (As := [_]) (le := [some _]) rfl rfl (Nat.le_of_ble_eq_true rfl) (Nat.le_of_ble_eq_true rfl) rfl ?_
    refine z_iload rfl rfl ?_
    refine z_pushI (z := 0) rfl rfl ?_
    refine z_pushI (z := 5) rfl rfl ?_
    refine z_callSi (As := [_, _, _]) (le := [some _, some _, some _]) rfl rfl (Nat.le_of_ble_eq_true rfl) (Nat.le_of_ble_eq_true rfl) rfl ?_
    refine z_iload rfl rfl ?_
    refine z_iload rfl rfl ?_
    refine z_icmp_ltF rfl (by decide) (by decide) (by decide) ?_
    refine z_iload rfl rfl ?_
    refine z_iload rfl rfl ?_
    refine z_icmp_gtF rfl (by decide) (by decide) (by decide) ?_
    refine z_pushI (z := 1) rfl rfl ?_
    refine z_goto rfl ?_
    refine z_bret rfl rfl (by decide) ?_
    show zW _ _ _ _ _ _ _ _ _ _
    refine z_bret rfl rfl (by decide) ?_
    show zW _ _ _ _ _ _ _ _ _ _
    refine z_if_neT rfl (by decide) (by decide) ?_
    refine z_aload rfl rfl ?_
    refine z_getR (r := 83) rfl rfl (hRr _ rm_50_58 (by decide)) ?_
    refine z_iload rfl rfl ?_
    refine z_iald (v := (-4)) rfl rfl (by decide) (by decide) ((e83.trans (by rw [hso]; rfl))) ?_
    refine z_pushI (z := (-1)) rfl rfl ?_
    refine z_icmp_neT rfl (by decide) (by decide) (by decide) ?_
    refine z_aload rfl rfl ?_
    refine z_getR (r := 83) rfl rfl (hRr _ rm_50_58 (by decide)) ?_
    refine z_iload rfl rfl ?_
    refine z_iald (v := (-4)) rfl rfl (by decide) (by decide) ((e83.trans (by rw [hso]; rfl))) ?_
    refine z_if_ltT rfl (by decide) (by decide) ?_
    refine z_iload rfl rfl ?_
    refine z_pushI (z := 0) rfl rfl ?_
    refine z_aload rfl rfl ?_
    refine z_getR (r := 84) rfl rfl (hRr _ rm_50_59 (by decide)) ?_
    refine z_iload rfl rfl ?_
    refine z_iald (v := J 46 3) rfl rfl (by decide) (by decide) (s7) ?_
    refine z_pushI (z := 1) rfl rfl ?_
    refine z_isub (e := (J 46 3) - 1) rfl rfl ?_
    refine z_callSi (As := [_, _, _]) (le := [some _, some _, some _]) rfl rfl (Nat.le_of_ble_eq_true rfl) (Nat.le_of_ble_eq_true rfl) rfl ?_
    refine z_iload rfl rfl ?_
    refine z_iload rfl rfl ?_
    refine z_icmp_ltT rfl (by omega) (by decide) (by omega) ?_
    refine z_pushI (z := 0) rfl rfl ?_
    refine z_bret rfl rfl (by decide) ?_
    show zW _ _ _ _ _ _ _ _ _ _
    refine z_if_eqT rfl (by decide) (by decide) ?_
    refine z_pushI (z := (-13)) rfl rfl ?_
    refine z_iret rfl rfl ?_
    show zW _ _ _ _ _ _ _ _ _ _
    refine z_istore rfl rfl ?_
    refine z_iload rfl rfl ?_
    refine z_if_geF rfl (by decide) (by decide) ?_
    refine z_iload rfl rfl ?_
    refine z_iret rfl rfl ?_
    refine ⟨?_, ?_⟩
    · first | rfl | exact congrArg (fun v => some (zi v)) (by omega) | (exfalso; omega)
    · exact hr
  · refine z_iload rfl rfl ?_
    refine z_aload rfl rfl ?_
    refine z_getI (v := J 46 3) rfl rfl (rfl) ?_
    refine z_icmp_ge rfl (by omega) (by omega) (fun h2 => ?_) (fun h2 => ?_)
    · refine z_pushI (z := (-13)) rfl rfl ?_
      refine z_iret rfl rfl ?_
      show zW _ _ _ _ _ _ _ _ _ _
      refine z_istore rfl rfl ?_
      refine z_iload rfl rfl ?_
      refine z_if_geF rfl (by decide) (by decide) ?_
      refine z_iload rfl rfl ?_
      refine z_iret rfl rfl ?_
      refine ⟨_, rfl, ?_⟩
      show zW _ _ _ _ [some (.ref 50), some (zi 4), some (zi i), some (zl v), none, none, none] _ _ _ _ _
      refine z_aload rfl rfl ?_
      refine z_iload rfl rfl ?_
      refine z_iload rfl rfl ?_
      refine z_callVi (As := [_, _]) (le := [some _, some _, some _]) rfl rfl rfl (Nat.le_of_ble_eq_true rfl) (Nat.le_of_ble_eq_true rfl) rfl ?_
      refine z_iload rfl rfl ?_
      refine z_callSi (As := [_]) (le := [some _]) rfl rfl (Nat.le_of_ble_eq_true rfl) (Nat.le_of_ble_eq_true rfl) rfl ?_
      refine z_iload rfl rfl ?_
      refine z_pushI (z := 0) rfl rfl ?_
      refine z_pushI (z := 5) rfl rfl ?_
      refine z_callSi (As := [_, _, _]) (le := [some _, some _, some _]) rfl rfl (Nat.le_of_ble_eq_true rfl) (Nat.le_of_ble_eq_true rfl) rfl ?_
      refine z_iload rfl rfl ?_
      refine z_iload rfl rfl ?_
      refine z_icmp_ltF rfl (by decide) (by decide) (by decide) ?_
      refine z_iload rfl rfl ?_
      refine z_iload rfl rfl ?_
      refine z_icmp_gtF rfl (by decide) (by decide) (by decide) ?_
      refine z_pushI (z := 1) rfl rfl ?_
      refine z_goto rfl ?_
      refine z_bret rfl rfl (by decide) ?_
      show zW _ _ _ _ _ _ _ _ _ _
      refine z_bret rfl rfl (by decide) ?_
      show zW _ _ _ _ _ _ _ _ _ _
      refine z_if_neT rfl (by decide) (by decide) ?_
      refine z_aload rfl rfl ?_
      refine z_getR (r := 83) rfl rfl (hRr _ rm_50_58 (by decide)) ?_
      refine z_iload rfl rfl ?_
      refine z_iald (v := (-4)) rfl rfl (by decide) (by decide) ((e83.trans (by rw [hso]; rfl))) ?_
      refine z_pushI (z := (-1)) rfl rfl ?_
      refine z_icmp_neT rfl (by decide) (by decide) (by decide) ?_
      refine z_aload rfl rfl ?_
      refine z_getR (r := 83) rfl rfl (hRr _ rm_50_58 (by decide)) ?_
      refine z_iload rfl rfl ?_
      refine z_iald (v := (-4)) rfl rfl (by decide) (by decide) ((e83.trans (by rw [hso]; rfl))) ?_
      refine z_if_ltT rfl (by decide) (by decide) ?_
      refine z_iload rfl rfl ?_
      refine z_pushI (z := 0) rfl rfl ?_
      refine z_aload rfl rfl ?_
      refine z_getR (r := 84) rfl rfl (hRr _ rm_50_59 (by decide)) ?_
      refine z_iload rfl rfl ?_
      refine z_iald (v := J 46 3) rfl rfl (by decide) (by decide) (s7) ?_
      refine z_pushI (z := 1) rfl rfl ?_
      refine z_isub (e := (J 46 3) - 1) rfl rfl ?_
      refine z_callSi (As := [_, _, _]) (le := [some _, some _, some _]) rfl rfl (Nat.le_of_ble_eq_true rfl) (Nat.le_of_ble_eq_true rfl) rfl ?_
      refine z_iload rfl rfl ?_
      refine z_iload rfl rfl ?_
      refine z_icmp_ltF rfl (by omega) (by decide) (by omega) ?_
      refine z_iload rfl rfl ?_
      refine z_iload rfl rfl ?_
      refine z_icmp_gtT rfl (by omega) (by omega) (by omega) ?_
      refine z_pushI (z := 0) rfl rfl ?_
      refine z_bret rfl rfl (by decide) ?_
      show zW _ _ _ _ _ _ _ _ _ _
      refine z_if_eqT rfl (by decide) (by decide) ?_
      refine z_pushI (z := (-13)) rfl rfl ?_
      refine z_iret rfl rfl ?_
      show zW _ _ _ _ _ _ _ _ _ _
      refine z_istore rfl rfl ?_
      refine z_iload rfl rfl ?_
      refine z_if_geF rfl (by decide) (by decide) ?_
      refine z_iload rfl rfl ?_
      refine z_iret rfl rfl ?_
      refine ⟨?_, ?_⟩
      · first | rfl | exact congrArg (fun v => some (zi v)) (by omega) | (exfalso; omega)
      · exact hr
    · refine z_pushI (z := 0) rfl rfl ?_
      refine z_goto rfl ?_
      refine z_iret rfl rfl ?_
      show zW _ _ _ _ _ _ _ _ _ _
      refine z_istore rfl rfl ?_
      refine z_iload rfl rfl ?_
      refine z_if_geT rfl (by decide) (by decide) ?_
      refine z_aload rfl rfl ?_
      refine z_getR (r := 37) rfl rfl (hR _ rm_0_11) ?_
      refine z_iload rfl rfl ?_
      refine z_aald (r := 46) rfl rfl (by decide) (by decide) (hR _ rm_37_4) ?_
      refine z_iload rfl rfl ?_
      refine z_lload rfl rfl ?_
      refine z_callVi (As := [_, _]) (le := [some _, some _, some _, none]) rfl rfl rfl (Nat.le_of_ble_eq_true rfl) (Nat.le_of_ble_eq_true rfl) rfl ?_
      refine z_iload rfl rfl ?_
      refine z_if_ltF rfl (by omega) (by omega) ?_
      refine z_iload rfl rfl ?_
      refine z_aload rfl rfl ?_
      refine z_getI (v := J 46 3) rfl rfl (rfl) ?_
      refine z_icmp_geF rfl (by omega) (by omega) (by omega) ?_
      refine z_aload rfl rfl ?_
      refine z_getR (r := 47) rfl rfl (hR _ rm_46_4) ?_
      refine z_iload rfl rfl ?_
      refine z_aload rfl rfl ?_
      refine z_lload rfl rfl ?_
      refine z_callVi (As := [_]) (le := [some _, some _, none]) rfl rfl rfl (Nat.le_of_ble_eq_true rfl) (Nat.le_of_ble_eq_true rfl) rfl ?_
      refine z_aload rfl rfl ?_
      refine z_getI (v := 2) rfl rfl (hso) ?_
      refine z_swI (tg := 50) rfl (by decide) (T := [((0 : Int), 40), ((1 : Int), 45), ((2 : Int), 50), ((3 : Int), 66), ((4 : Int), 54)]) rfl (by decide) ?_
      refine z_lload rfl rfl ?_
      refine z_l2i rfl ?_
      refine z_topn (e := zn v) rfl ?_
      have q3 := zn_r v
      refine z_i2l rfl (by omega) ?_
      refine z_lret rfl rfl ?_
      show zW _ _ _ _ _ _ _ _ _ _
      refine z_last (e := zn v) rfl rfl (by decide) (by omega) rfl ?_
      refine z_vret rfl rfl ?_
      show zW _ _ _ _ _ _ _ _ _ _
      refine z_pushI (z := 1) rfl rfl ?_
      refine z_iret rfl rfl ?_
      refine ⟨_, rfl, ?_⟩
      show zW _ _ _ _ [some (.ref 50), some (zi 4), some (zi i), some (zl v), none, none, none] _ _ _ _ _
      refine z_aload rfl rfl ?_
      refine z_iload rfl rfl ?_
      refine z_iload rfl rfl ?_
      refine z_callVi (As := [_, _]) (le := [some _, some _, some _]) rfl rfl rfl (Nat.le_of_ble_eq_true rfl) (Nat.le_of_ble_eq_true rfl) rfl ?_
      refine z_iload rfl rfl ?_
      refine z_callSi (As := [_]) (le := [some _]) rfl rfl (Nat.le_of_ble_eq_true rfl) (Nat.le_of_ble_eq_true rfl) rfl ?_
      refine z_iload rfl rfl ?_
      refine z_pushI (z := 0) rfl rfl ?_
      refine z_pushI (z := 5) rfl rfl ?_
      refine z_callSi (As := [_, _, _]) (le := [some _, some _, some _]) rfl rfl (Nat.le_of_ble_eq_true rfl) (Nat.le_of_ble_eq_true rfl) rfl ?_
      refine z_iload rfl rfl ?_
      refine z_iload rfl rfl ?_
      refine z_icmp_ltF rfl (by decide) (by decide) (by decide) ?_
      refine z_iload rfl rfl ?_
      refine z_iload rfl rfl ?_
      refine z_icmp_gtF rfl (by decide) (by decide) (by decide) ?_
      refine z_pushI (z := 1) rfl rfl ?_
      refine z_goto rfl ?_
      refine z_bret rfl rfl (by decide) ?_
      show zW _ _ _ _ _ _ _ _ _ _
      refine z_bret rfl rfl (by decide) ?_
      show zW _ _ _ _ _ _ _ _ _ _
      refine z_if_neT rfl (by decide) (by decide) ?_
      refine z_aload rfl rfl ?_
      refine z_getR (r := 83) rfl rfl (hRr _ rm_50_58 (by decide)) ?_
      refine z_iload rfl rfl ?_
      refine z_iald (v := (-4)) rfl rfl (by decide) (by decide) ((e83.trans (by rw [hso]; rfl))) ?_
      refine z_pushI (z := (-1)) rfl rfl ?_
      refine z_icmp_neT rfl (by decide) (by decide) (by decide) ?_
      refine z_aload rfl rfl ?_
      refine z_getR (r := 83) rfl rfl (hRr _ rm_50_58 (by decide)) ?_
      refine z_iload rfl rfl ?_
      refine z_iald (v := (-4)) rfl rfl (by decide) (by decide) ((e83.trans (by rw [hso]; rfl))) ?_
      refine z_if_ltT rfl (by decide) (by decide) ?_
      refine z_iload rfl rfl ?_
      refine z_pushI (z := 0) rfl rfl ?_
      refine z_aload rfl rfl ?_
      refine z_getR (r := 84) rfl rfl (hRr _ rm_50_59 (by decide)) ?_
      refine z_iload rfl rfl ?_
      refine z_iald (v := J 46 3) rfl rfl (by decide) (by decide) (s7) ?_
      refine z_pushI (z := 1) rfl rfl ?_
      refine z_isub (e := (J 46 3) - 1) rfl rfl ?_
      refine z_callSi (As := [_, _, _]) (le := [some _, some _, some _]) rfl rfl (Nat.le_of_ble_eq_true rfl) (Nat.le_of_ble_eq_true rfl) rfl ?_
      refine z_iload rfl rfl ?_
      refine z_iload rfl rfl ?_
      refine z_icmp_ltF rfl (by omega) (by decide) (by omega) ?_
      refine z_iload rfl rfl ?_
      refine z_iload rfl rfl ?_
      refine z_icmp_gtF rfl (by omega) (by omega) (by omega) ?_
      refine z_pushI (z := 1) rfl rfl ?_
      refine z_goto rfl ?_
      refine z_bret rfl rfl (by decide) ?_
      show zW _ _ _ _ _ _ _ _ _ _
      refine z_if_eqF rfl (by decide) (by decide) ?_
      refine z_pushI (z := 0) rfl rfl ?_
      refine z_goto rfl ?_
      refine z_iret rfl rfl ?_
      show zW _ _ _ _ _ _ _ _ _ _
      refine z_istore rfl rfl ?_
      refine z_iload rfl rfl ?_
      refine z_if_geT rfl (by decide) (by decide) ?_
      refine z_pushI (z := (-2)) rfl rfl ?_
      refine z_aload rfl rfl ?_
      refine z_getR (r := 83) rfl rfl (hRr _ rm_50_58 (by decide)) ?_
      refine z_iload rfl rfl ?_
      refine z_iald (v := (-4)) rfl rfl (by decide) (by decide) ((e83.trans (by rw [hso]; rfl))) ?_
      refine z_isub (e := 2) rfl rfl ?_
      refine z_istore rfl rfl ?_
      refine z_aload rfl rfl ?_
      refine z_getR (r := 85) rfl rfl (hRr _ rm_50_60 (by decide)) ?_
      refine z_pushI (z := 60) rfl rfl ?_
      refine z_iload rfl rfl ?_
      refine z_imul (e := 240) rfl rfl ?_
      refine z_iload rfl rfl ?_
      refine z_iadd (e := 240 + i) rfl rfl ?_
      refine z_iload rfl rfl ?_
      refine z_if_neT rfl (by decide) (by decide) ?_
      refine z_iload rfl rfl ?_
      refine z_pushI (z := 1) rfl rfl ?_
      refine z_icmp_neT rfl (by decide) (by decide) (by decide) ?_
      refine z_iload rfl rfl ?_
      refine z_pushI (z := 2) rfl rfl ?_
      refine z_icmp_neF rfl (by decide) (by decide) (by decide) ?_
      refine z_lload rfl rfl ?_
      refine z_l2i rfl ?_
      refine z_topn (e := zn v) rfl ?_
      have q4 := zn_r v
      refine z_i2l rfl (by omega) ?_
      refine z_goto rfl ?_
      refine z_last (e := zn v) rfl rfl (by decide) (by omega) rfl ?_
      refine z_pushI (z := 1) rfl rfl ?_
      refine z_iret rfl rfl ?_
      refine ⟨?_, ?_⟩
      · first | rfl | exact congrArg (fun v => some (zi v)) (by omega) | (exfalso; omega)
      · have hk := (zK_r (k := (kL [] [])) (A := J))
        have hkm := (zK_x (a := 85) (x := 240 + i) (v := zn v) (zK_x (a := 47) (x := i) (v := zn v) (zK_r (k := (kL [47, 85] [])) (A := M)) rfl) rfl)
        exact ⟨hR, hG, RelY_k hk (by repeat' constructor) (fun p => by repeat' constructor) hY, RelD_k hk (by repeat' constructor) (fun p => by repeat' constructor) hD, RelP_k hk (by repeat' constructor) (fun p => by repeat' constructor) hP, RelC_k hk (by repeat' constructor) (fun p => by repeat' constructor) hC, RelA_k hk (by repeat' constructor) (fun p => by repeat' constructor) hAc, (RelS_one (J := J) (M := M) (c := 4) (fun t t1 t2 te => by have q : t = 0 ∨ t = 1 ∨ t = 2 ∨ t = 3 ∨ t = 4 ∨ t = 5 := (by omega); rcases q with rfl | rfl | rfl | rfl | rfl | rfl <;> first | exact absurd rfl te | exact ⟨fun j => rfl, rfl, rfl⟩) (fun t t1 t2 te => by have q : t = 0 ∨ t = 1 ∨ t = 2 ∨ t = 3 ∨ t = 4 ∨ t = 5 := (by omega); rcases q with rfl | rfl | rfl | rfl | rfl | rfl <;> first | exact absurd rfl te | exact ⟨fun j => rfl, fun j j1 j2 => (zU_x (by omega)).trans (zU_n (by decide))⟩) rfl (show RelS1 _ _ _ from ⟨(hS 4 (by decide) (by decide)).1, (hS 4 (by decide) (by decide)).2.1, s3, s4, (hS 4 (by decide) (by decide)).2.2.2.2.1, fun _ => ⟨s7.symm, fun k k1 k2 => by show (if k = i then zn v else M 47 k) = (if 240 + k = 240 + i then zn v else M 85 (240 + k)); by_cases e : k = i; rw [if_pos e, if_pos (by omega)]; rw [if_neg e, if_neg (by omega)]; exact s8 k k1 k2, (fun hq => absurd (Eq.trans (Eq.symm hq) hso) (by decide))⟩⟩) hS), RelT_k hk (by repeat' constructor) (fun p => by repeat' constructor) hTp, RelX_k hk (by repeat' constructor) (fun p => by repeat' constructor) hX, RelW_k hk ⟨rfl, rfl⟩ trivial hW⟩
theorem st_put_423 {X : Nat × (Nat → Int32)} {d : Nat} {J M : zA} {R : zR} {i v : Int} (hr : Rel X J M R) (hi : -2147483648 ≤ i ∧ i < 2147483648) (hv : -9223372036854775808 ≤ v ∧ v < 9223372036854775808) (hh : J 46 0 = 2) (hso : J 46 2 = 3) : zW X (d + 20) 138 0 (gEn 138 [(.ref 0), (zi 4), (zi i), (zl v)]) [] J M R (stP X (d + 20) 252 [(zi 4), (zi i), (zl v)]) := by
  have hr0 := hr
  obtain ⟨hR, hG, hY, hD, hP, hC, hAc, hS, hTp, hX, hW⟩ := hr0
  have hRr : zRoR R := zRoR_of hR
  have e83 : J 83 4 = -2 - J 46 2 := (hS 4 (by decide) (by decide)).1.symm.trans (cH_2 hh)
  have s3 : 0 ≤ J 46 2 ∧ J 46 2 ≤ 4 := (hS 4 (by decide) (by decide)).2.2.1
  have s4 : 0 ≤ J 46 3 ∧ J 46 3 ≤ 60 := (hS 4 (by decide) (by decide)).2.2.2.1
  have s6 := (hS 4 (by decide) (by decide)).2.2.2.2.2 hh
  have s7 : J 84 4 = J 46 3 := s6.1.symm
  have s8 : ∀ i, 0 ≤ i → i < J 46 3 → M 47 i = M 85 (240 + i) := s6.2.1
  show zW _ _ _ _ [some (.ref 0), some (zi 4), some (zi i), some (zl v), none, none] _ _ _ _ _
  refine z_iload rfl rfl ?_
  refine z_callSi (As := [_]) (le := [some _]) rfl rfl (Nat.le_of_ble_eq_true rfl) (Nat.le_of_ble_eq_true rfl) rfl ?_
  refine z_iload rfl rfl ?_
  refine z_if_ltF rfl (by decide) (by decide) ?_
  refine z_iload rfl rfl ?_
  refine z_pushI (z := 6) rfl rfl ?_
  refine z_icmp_geF rfl (by decide) (by decide) (by decide) ?_
  refine z_pushI (z := 1) rfl rfl ?_
  refine z_goto rfl ?_
  refine z_bret rfl rfl (by decide) ?_
  show zW _ _ _ _ _ _ _ _ _ _
  refine z_if_neT rfl (by decide) (by decide) ?_
  refine z_aload rfl rfl ?_
  refine z_getR (r := 37) rfl rfl (hR _ rm_0_11) ?_
  refine z_iload rfl rfl ?_
  refine z_aald (r := 46) rfl rfl (by decide) (by decide) (hR _ rm_37_4) ?_
  refine z_iload rfl rfl ?_
  refine z_callVi (As := [_]) (le := [some _, some _]) rfl rfl rfl (Nat.le_of_ble_eq_true rfl) (Nat.le_of_ble_eq_true rfl) rfl ?_
  refine z_aload rfl rfl ?_
  refine z_getI (v := 2) rfl rfl (hh) ?_
  refine z_if_neT rfl (by decide) (by decide) ?_
  refine z_aload rfl rfl ?_
  refine z_getI (v := 2) rfl rfl (hh) ?_
  refine z_pushI (z := 2) rfl rfl ?_
  refine z_icmp_eqT rfl (by decide) (by decide) (by decide) ?_
  refine z_iload rfl rfl ?_
  refine z_if_lt rfl (by omega) (fun h1 => ?_) (fun h1 => ?_)
  · refine z_pushI (z := (-13)) rfl rfl ?_
    refine z_iret rfl rfl ?_
    show zW _ _ _ _ _ _ _ _ _ _
    refine z_istore rfl rfl ?_
    refine z_iload rfl rfl ?_
    refine z_if_geF rfl (by decide) (by decide) ?_
    refine z_iload rfl rfl ?_
    refine z_iret rfl rfl ?_
    refine ⟨_, rfl, ?_⟩
    show zW _ _ _ _ [some (.ref 50), some (zi 4), some (zi i), some (zl v), none, none, none] _ _ _ _ _
    refine z_aload rfl rfl ?_
    refine z_iload rfl rfl ?_
    refine z_iload rfl rfl ?_
    refine z_callVi (As := [_, _]) (le := [some _, some _, some _]) rfl rfl rfl (Nat.le_of_ble_eq_true rfl) (Nat.le_of_ble_eq_true rfl) rfl ?_
    refine z_iload rfl rfl ?_
    refine z_callSi (As := [_]) (le := [some _]) rfl rfl (Nat.le_of_ble_eq_true rfl) (Nat.le_of_ble_eq_true rfl) rfl ?_
    refine z_iload rfl rfl ?_
    refine z_pushI (z := 0) rfl rfl ?_
    refine z_pushI (z := 5) rfl rfl ?_
    refine z_callSi (As := [_, _, _]) (le := [some _, some _, some _]) rfl rfl (Nat.le_of_ble_eq_true rfl) (Nat.le_of_ble_eq_true rfl) rfl ?_
    refine z_iload rfl rfl ?_
    refine z_iload rfl rfl ?_
    refine z_icmp_ltF rfl (by decide) (by decide) (by decide) ?_
    refine z_iload rfl rfl ?_
    refine z_iload rfl rfl ?_
    refine z_icmp_gtF rfl (by decide) (by decide) (by decide) ?_
    refine z_pushI (z := 1) rfl rfl ?_
    refine z_goto rfl ?_
    refine z_bret rfl rfl (by decide) ?_
    show zW _ _ _ _ _ _ _ _ _ _
    refine z_bret rfl rfl (by decide) ?_
    show zW _ _ _ _ _ _ _ _ _ _
    refine z_if_neT rfl (by decide) (by decide) ?_
    refine z_aload rfl rfl ?_
    refine z_getR (r := 83) rfl rfl (hRr _ rm_50_58 (by decide)) ?_
    refine z_iload rfl rfl ?_
    refine z_iald (v := (-5)) rfl rfl (by decide) (by decide) ((e83.trans (by rw [hso]; rfl))) ?_
    refine z_pushI (z := (-1)) rfl rfl ?_
    refine z_icmp_neT rfl (by decide) (by decide) (by decide) ?_
    refine z_aload rfl rfl ?_
    refine z_getR (r := 83) rfl rfl (hRr _ rm_50_58 (by decide)) ?_
    refine z_iload rfl rfl ?_
    refine z_iald (v := (-5)) rfl rfl (by decide) (by decide) ((e83.trans (by rw [hso]; rfl))) ?_
    refine z_if_ltT rfl (by decide) (by decide) ?_
    refine z_iload rfl rfl ?_
    refine z_pushI (z := 0) rfl rfl ?_
    refine z_aload rfl rfl ?_
    refine z_getR (r := 84) rfl rfl (hRr _ rm_50_59 (by decide)) ?_
    refine z_iload rfl rfl ?_
    refine z_iald (v := J 46 3) rfl rfl (by decide) (by decide) (s7) ?_
    refine z_pushI (z := 1) rfl rfl ?_
    refine z_isub (e := (J 46 3) - 1) rfl rfl ?_
    refine z_callSi (As := [_, _, _]) (le := [some _, some _, some _]) rfl rfl (Nat.le_of_ble_eq_true rfl) (Nat.le_of_ble_eq_true rfl) rfl ?_
    refine z_iload rfl rfl ?_
    refine z_iload rfl rfl ?_
    refine z_icmp_ltT rfl (by omega) (by decide) (by omega) ?_
    refine z_pushI (z := 0) rfl rfl ?_
    refine z_bret rfl rfl (by decide) ?_
    show zW _ _ _ _ _ _ _ _ _ _
    refine z_if_eqT rfl (by decide) (by decide) ?_
    refine z_pushI (z := (-13)) rfl rfl ?_
    refine z_iret rfl rfl ?_
    show zW _ _ _ _ _ _ _ _ _ _
    refine z_istore rfl rfl ?_
    refine z_iload rfl rfl ?_
    refine z_if_geF rfl (by decide) (by decide) ?_
    refine z_iload rfl rfl ?_
    refine z_iret rfl rfl ?_
    refine ⟨?_, ?_⟩
    · first | rfl | exact congrArg (fun v => some (zi v)) (by omega) | (exfalso; omega)
    · exact hr
  · refine z_iload rfl rfl ?_
    refine z_aload rfl rfl ?_
    refine z_getI (v := J 46 3) rfl rfl (rfl) ?_
    refine z_icmp_ge rfl (by omega) (by omega) (fun h2 => ?_) (fun h2 => ?_)
    · refine z_pushI (z := (-13)) rfl rfl ?_
      refine z_iret rfl rfl ?_
      show zW _ _ _ _ _ _ _ _ _ _
      refine z_istore rfl rfl ?_
      refine z_iload rfl rfl ?_
      refine z_if_geF rfl (by decide) (by decide) ?_
      refine z_iload rfl rfl ?_
      refine z_iret rfl rfl ?_
      refine ⟨_, rfl, ?_⟩
      show zW _ _ _ _ [some (.ref 50), some (zi 4), some (zi i), some (zl v), none, none, none] _ _ _ _ _
      refine z_aload rfl rfl ?_
      refine z_iload rfl rfl ?_
      refine z_iload rfl rfl ?_
      refine z_callVi (As := [_, _]) (le := [some _, some _, some _]) rfl rfl rfl (Nat.le_of_ble_eq_true rfl) (Nat.le_of_ble_eq_true rfl) rfl ?_
      refine z_iload rfl rfl ?_
      refine z_callSi (As := [_]) (le := [some _]) rfl rfl (Nat.le_of_ble_eq_true rfl) (Nat.le_of_ble_eq_true rfl) rfl ?_
      refine z_iload rfl rfl ?_
      refine z_pushI (z := 0) rfl rfl ?_
      refine z_pushI (z := 5) rfl rfl ?_
      refine z_callSi (As := [_, _, _]) (le := [some _, some _, some _]) rfl rfl (Nat.le_of_ble_eq_true rfl) (Nat.le_of_ble_eq_true rfl) rfl ?_
      refine z_iload rfl rfl ?_
      refine z_iload rfl rfl ?_
      refine z_icmp_ltF rfl (by decide) (by decide) (by decide) ?_
      refine z_iload rfl rfl ?_
      refine z_iload rfl rfl ?_
      refine z_icmp_gtF rfl (by decide) (by decide) (by decide) ?_
      refine z_pushI (z := 1) rfl rfl ?_
      refine z_goto rfl ?_
      refine z_bret rfl rfl (by decide) ?_
      show zW _ _ _ _ _ _ _ _ _ _
      refine z_bret rfl rfl (by decide) ?_
      show zW _ _ _ _ _ _ _ _ _ _
      refine z_if_neT rfl (by decide) (by decide) ?_
      refine z_aload rfl rfl ?_
      refine z_getR (r := 83) rfl rfl (hRr _ rm_50_58 (by decide)) ?_
      refine z_iload rfl rfl ?_
      refine z_iald (v := (-5)) rfl rfl (by decide) (by decide) ((e83.trans (by rw [hso]; rfl))) ?_
      refine z_pushI (z := (-1)) rfl rfl ?_
      refine z_icmp_neT rfl (by decide) (by decide) (by decide) ?_
      refine z_aload rfl rfl ?_
      refine z_getR (r := 83) rfl rfl (hRr _ rm_50_58 (by decide)) ?_
      refine z_iload rfl rfl ?_
      refine z_iald (v := (-5)) rfl rfl (by decide) (by decide) ((e83.trans (by rw [hso]; rfl))) ?_
      refine z_if_ltT rfl (by decide) (by decide) ?_
      refine z_iload rfl rfl ?_
      refine z_pushI (z := 0) rfl rfl ?_
      refine z_aload rfl rfl ?_
      refine z_getR (r := 84) rfl rfl (hRr _ rm_50_59 (by decide)) ?_
      refine z_iload rfl rfl ?_
      refine z_iald (v := J 46 3) rfl rfl (by decide) (by decide) (s7) ?_
      refine z_pushI (z := 1) rfl rfl ?_
      refine z_isub (e := (J 46 3) - 1) rfl rfl ?_
      refine z_callSi (As := [_, _, _]) (le := [some _, some _, some _]) rfl rfl (Nat.le_of_ble_eq_true rfl) (Nat.le_of_ble_eq_true rfl) rfl ?_
      refine z_iload rfl rfl ?_
      refine z_iload rfl rfl ?_
      refine z_icmp_ltF rfl (by omega) (by decide) (by omega) ?_
      refine z_iload rfl rfl ?_
      refine z_iload rfl rfl ?_
      refine z_icmp_gtT rfl (by omega) (by omega) (by omega) ?_
      refine z_pushI (z := 0) rfl rfl ?_
      refine z_bret rfl rfl (by decide) ?_
      show zW _ _ _ _ _ _ _ _ _ _
      refine z_if_eqT rfl (by decide) (by decide) ?_
      refine z_pushI (z := (-13)) rfl rfl ?_
      refine z_iret rfl rfl ?_
      show zW _ _ _ _ _ _ _ _ _ _
      refine z_istore rfl rfl ?_
      refine z_iload rfl rfl ?_
      refine z_if_geF rfl (by decide) (by decide) ?_
      refine z_iload rfl rfl ?_
      refine z_iret rfl rfl ?_
      refine ⟨?_, ?_⟩
      · first | rfl | exact congrArg (fun v => some (zi v)) (by omega) | (exfalso; omega)
      · exact hr
    · refine z_pushI (z := 0) rfl rfl ?_
      refine z_goto rfl ?_
      refine z_iret rfl rfl ?_
      show zW _ _ _ _ _ _ _ _ _ _
      refine z_istore rfl rfl ?_
      refine z_iload rfl rfl ?_
      refine z_if_geT rfl (by decide) (by decide) ?_
      refine z_aload rfl rfl ?_
      refine z_getR (r := 37) rfl rfl (hR _ rm_0_11) ?_
      refine z_iload rfl rfl ?_
      refine z_aald (r := 46) rfl rfl (by decide) (by decide) (hR _ rm_37_4) ?_
      refine z_iload rfl rfl ?_
      refine z_lload rfl rfl ?_
      refine z_callVi (As := [_, _]) (le := [some _, some _, some _, none]) rfl rfl rfl (Nat.le_of_ble_eq_true rfl) (Nat.le_of_ble_eq_true rfl) rfl ?_
      refine z_iload rfl rfl ?_
      refine z_if_ltF rfl (by omega) (by omega) ?_
      refine z_iload rfl rfl ?_
      refine z_aload rfl rfl ?_
      refine z_getI (v := J 46 3) rfl rfl (rfl) ?_
      refine z_icmp_geF rfl (by omega) (by omega) (by omega) ?_
      refine z_aload rfl rfl ?_
      refine z_getR (r := 47) rfl rfl (hR _ rm_46_4) ?_
      refine z_iload rfl rfl ?_
      refine z_aload rfl rfl ?_
      refine z_lload rfl rfl ?_
      refine z_callVi (As := [_]) (le := [some _, some _, none]) rfl rfl rfl (Nat.le_of_ble_eq_true rfl) (Nat.le_of_ble_eq_true rfl) rfl ?_
      refine z_aload rfl rfl ?_
      refine z_getI (v := 3) rfl rfl (hso) ?_
      refine z_swI (tg := 66) rfl (by decide) (T := [((0 : Int), 40), ((1 : Int), 45), ((2 : Int), 50), ((3 : Int), 66), ((4 : Int), 54)]) rfl (by decide) ?_
      refine z_lload rfl rfl ?_
      refine z_lret rfl rfl ?_
      show zW _ _ _ _ _ _ _ _ _ _
      refine z_last (e := v) rfl rfl (by decide) (by omega) rfl ?_
      refine z_vret rfl rfl ?_
      show zW _ _ _ _ _ _ _ _ _ _
      refine z_pushI (z := 1) rfl rfl ?_
      refine z_iret rfl rfl ?_
      refine ⟨_, rfl, ?_⟩
      show zW _ _ _ _ [some (.ref 50), some (zi 4), some (zi i), some (zl v), none, none, none] _ _ _ _ _
      refine z_aload rfl rfl ?_
      refine z_iload rfl rfl ?_
      refine z_iload rfl rfl ?_
      refine z_callVi (As := [_, _]) (le := [some _, some _, some _]) rfl rfl rfl (Nat.le_of_ble_eq_true rfl) (Nat.le_of_ble_eq_true rfl) rfl ?_
      refine z_iload rfl rfl ?_
      refine z_callSi (As := [_]) (le := [some _]) rfl rfl (Nat.le_of_ble_eq_true rfl) (Nat.le_of_ble_eq_true rfl) rfl ?_
      refine z_iload rfl rfl ?_
      refine z_pushI (z := 0) rfl rfl ?_
      refine z_pushI (z := 5) rfl rfl ?_
      refine z_callSi (As := [_, _, _]) (le := [some _, some _, some _]) rfl rfl (Nat.le_of_ble_eq_true rfl) (Nat.le_of_ble_eq_true rfl) rfl ?_
      refine z_iload rfl rfl ?_
      refine z_iload rfl rfl ?_
      refine z_icmp_ltF rfl (by decide) (by decide) (by decide) ?_
      refine z_iload rfl rfl ?_
      refine z_iload rfl rfl ?_
      refine z_icmp_gtF rfl (by decide) (by decide) (by decide) ?_
      refine z_pushI (z := 1) rfl rfl ?_
      refine z_goto rfl ?_
      refine z_bret rfl rfl (by decide) ?_
      show zW _ _ _ _ _ _ _ _ _ _
      refine z_bret rfl rfl (by decide) ?_
      show zW _ _ _ _ _ _ _ _ _ _
      refine z_if_neT rfl (by decide) (by decide) ?_
      refine z_aload rfl rfl ?_
      refine z_getR (r := 83) rfl rfl (hRr _ rm_50_58 (by decide)) ?_
      refine z_iload rfl rfl ?_
      refine z_iald (v := (-5)) rfl rfl (by decide) (by decide) ((e83.trans (by rw [hso]; rfl))) ?_
      refine z_pushI (z := (-1)) rfl rfl ?_
      refine z_icmp_neT rfl (by decide) (by decide) (by decide) ?_
      refine z_aload rfl rfl ?_
      refine z_getR (r := 83) rfl rfl (hRr _ rm_50_58 (by decide)) ?_
      refine z_iload rfl rfl ?_
      refine z_iald (v := (-5)) rfl rfl (by decide) (by decide) ((e83.trans (by rw [hso]; rfl))) ?_
      refine z_if_ltT rfl (by decide) (by decide) ?_
      refine z_iload rfl rfl ?_
      refine z_pushI (z := 0) rfl rfl ?_
      refine z_aload rfl rfl ?_
      refine z_getR (r := 84) rfl rfl (hRr _ rm_50_59 (by decide)) ?_
      refine z_iload rfl rfl ?_
      refine z_iald (v := J 46 3) rfl rfl (by decide) (by decide) (s7) ?_
      refine z_pushI (z := 1) rfl rfl ?_
      refine z_isub (e := (J 46 3) - 1) rfl rfl ?_
      refine z_callSi (As := [_, _, _]) (le := [some _, some _, some _]) rfl rfl (Nat.le_of_ble_eq_true rfl) (Nat.le_of_ble_eq_true rfl) rfl ?_
      refine z_iload rfl rfl ?_
      refine z_iload rfl rfl ?_
      refine z_icmp_ltF rfl (by omega) (by decide) (by omega) ?_
      refine z_iload rfl rfl ?_
      refine z_iload rfl rfl ?_
      refine z_icmp_gtF rfl (by omega) (by omega) (by omega) ?_
      refine z_pushI (z := 1) rfl rfl ?_
      refine z_goto rfl ?_
      refine z_bret rfl rfl (by decide) ?_
      show zW _ _ _ _ _ _ _ _ _ _
      refine z_if_eqF rfl (by decide) (by decide) ?_
      refine z_pushI (z := 0) rfl rfl ?_
      refine z_goto rfl ?_
      refine z_iret rfl rfl ?_
      show zW _ _ _ _ _ _ _ _ _ _
      refine z_istore rfl rfl ?_
      refine z_iload rfl rfl ?_
      refine z_if_geT rfl (by decide) (by decide) ?_
      refine z_pushI (z := (-2)) rfl rfl ?_
      refine z_aload rfl rfl ?_
      refine z_getR (r := 83) rfl rfl (hRr _ rm_50_58 (by decide)) ?_
      refine z_iload rfl rfl ?_
      refine z_iald (v := (-5)) rfl rfl (by decide) (by decide) ((e83.trans (by rw [hso]; rfl))) ?_
      refine z_isub (e := 3) rfl rfl ?_
      refine z_istore rfl rfl ?_
      refine z_aload rfl rfl ?_
      refine z_getR (r := 85) rfl rfl (hRr _ rm_50_60 (by decide)) ?_
      refine z_pushI (z := 60) rfl rfl ?_
      refine z_iload rfl rfl ?_
      refine z_imul (e := 240) rfl rfl ?_
      refine z_iload rfl rfl ?_
      refine z_iadd (e := 240 + i) rfl rfl ?_
      refine z_iload rfl rfl ?_
      refine z_if_neT rfl (by decide) (by decide) ?_
      refine z_iload rfl rfl ?_
      refine z_pushI (z := 1) rfl rfl ?_
      refine z_icmp_neT rfl (by decide) (by decide) (by decide) ?_
      refine z_iload rfl rfl ?_
      refine z_pushI (z := 2) rfl rfl ?_
      refine z_icmp_neT rfl (by decide) (by decide) (by decide) ?_
      refine z_iload rfl rfl ?_
      refine z_pushI (z := 3) rfl rfl ?_
      refine z_icmp_neF rfl (by decide) (by decide) (by decide) ?_
      refine z_lload rfl rfl ?_
      refine z_goto rfl ?_
      refine z_last (e := v) rfl rfl (by decide) (by omega) rfl ?_
      refine z_pushI (z := 1) rfl rfl ?_
      refine z_iret rfl rfl ?_
      refine ⟨?_, ?_⟩
      · first | rfl | exact congrArg (fun v => some (zi v)) (by omega) | (exfalso; omega)
      · have hk := (zK_r (k := (kL [] [])) (A := J))
        have hkm := (zK_x (a := 85) (x := 240 + i) (v := v) (zK_x (a := 47) (x := i) (v := v) (zK_r (k := (kL [47, 85] [])) (A := M)) rfl) rfl)
        exact ⟨hR, hG, RelY_k hk (by repeat' constructor) (fun p => by repeat' constructor) hY, RelD_k hk (by repeat' constructor) (fun p => by repeat' constructor) hD, RelP_k hk (by repeat' constructor) (fun p => by repeat' constructor) hP, RelC_k hk (by repeat' constructor) (fun p => by repeat' constructor) hC, RelA_k hk (by repeat' constructor) (fun p => by repeat' constructor) hAc, (RelS_one (J := J) (M := M) (c := 4) (fun t t1 t2 te => by have q : t = 0 ∨ t = 1 ∨ t = 2 ∨ t = 3 ∨ t = 4 ∨ t = 5 := (by omega); rcases q with rfl | rfl | rfl | rfl | rfl | rfl <;> first | exact absurd rfl te | exact ⟨fun j => rfl, rfl, rfl⟩) (fun t t1 t2 te => by have q : t = 0 ∨ t = 1 ∨ t = 2 ∨ t = 3 ∨ t = 4 ∨ t = 5 := (by omega); rcases q with rfl | rfl | rfl | rfl | rfl | rfl <;> first | exact absurd rfl te | exact ⟨fun j => rfl, fun j j1 j2 => (zU_x (by omega)).trans (zU_n (by decide))⟩) rfl (show RelS1 _ _ _ from ⟨(hS 4 (by decide) (by decide)).1, (hS 4 (by decide) (by decide)).2.1, s3, s4, (hS 4 (by decide) (by decide)).2.2.2.2.1, fun _ => ⟨s7.symm, fun k k1 k2 => by show (if k = i then v else M 47 k) = (if 240 + k = 240 + i then v else M 85 (240 + k)); by_cases e : k = i; rw [if_pos e, if_pos (by omega)]; rw [if_neg e, if_neg (by omega)]; exact s8 k k1 k2, (fun hq => absurd (Eq.trans (Eq.symm hq) hso) (by decide))⟩⟩) hS), RelT_k hk (by repeat' constructor) (fun p => by repeat' constructor) hTp, RelX_k hk (by repeat' constructor) (fun p => by repeat' constructor) hX, RelW_k hk ⟨rfl, rfl⟩ trivial hW⟩
theorem st_put_424 {X : Nat × (Nat → Int32)} {d : Nat} {J M : zA} {R : zR} {i v : Int} (hr : Rel X J M R) (hi : -2147483648 ≤ i ∧ i < 2147483648) (hv : -9223372036854775808 ≤ v ∧ v < 9223372036854775808) (hh : J 46 0 = 2) (hso : J 46 2 = 4) : zW X (d + 20) 138 0 (gEn 138 [(.ref 0), (zi 4), (zi i), (zl v)]) [] J M R (stP X (d + 20) 252 [(zi 4), (zi i), (zl v)]) := by
  have hr0 := hr
  obtain ⟨hR, hG, hY, hD, hP, hC, hAc, hS, hTp, hX, hW⟩ := hr0
  have hRr : zRoR R := zRoR_of hR
  have e83 : J 83 4 = -2 - J 46 2 := (hS 4 (by decide) (by decide)).1.symm.trans (cH_2 hh)
  have s3 : 0 ≤ J 46 2 ∧ J 46 2 ≤ 4 := (hS 4 (by decide) (by decide)).2.2.1
  have s4 : 0 ≤ J 46 3 ∧ J 46 3 ≤ 60 := (hS 4 (by decide) (by decide)).2.2.2.1
  have s6 := (hS 4 (by decide) (by decide)).2.2.2.2.2 hh
  have s7 : J 84 4 = J 46 3 := s6.1.symm
  have s8 : ∀ i, 0 ≤ i → i < J 46 3 → M 47 i = M 85 (240 + i) := s6.2.1
  show zW _ _ _ _ [some (.ref 0), some (zi 4), some (zi i), some (zl v), none, none] _ _ _ _ _
  refine z_iload rfl rfl ?_
  refine z_callSi (As := [_]) (le := [some _]) rfl rfl (Nat.le_of_ble_eq_true rfl) (Nat.le_of_ble_eq_true rfl) rfl ?_
  refine z_iload rfl rfl ?_
  refine z_if_ltF rfl (by decide) (by decide) ?_
  refine z_iload rfl rfl ?_
  refine z_pushI (z := 6) rfl rfl ?_
  refine z_icmp_geF rfl (by decide) (by decide) (by decide) ?_
  refine z_pushI (z := 1) rfl rfl ?_
  refine z_goto rfl ?_
  refine z_bret rfl rfl (by decide) ?_
  show zW _ _ _ _ _ _ _ _ _ _
  refine z_if_neT rfl (by decide) (by decide) ?_
  refine z_aload rfl rfl ?_
  refine z_getR (r := 37) rfl rfl (hR _ rm_0_11) ?_
  refine z_iload rfl rfl ?_
  refine z_aald (r := 46) rfl rfl (by decide) (by decide) (hR _ rm_37_4) ?_
  refine z_iload rfl rfl ?_
  refine z_callVi (As := [_]) (le := [some _, some _]) rfl rfl rfl (Nat.le_of_ble_eq_true rfl) (Nat.le_of_ble_eq_true rfl) rfl ?_
  refine z_aload rfl rfl ?_
  refine z_getI (v := 2) rfl rfl (hh) ?_
  refine z_if_neT rfl (by decide) (by decide) ?_
  refine z_aload rfl rfl ?_
  refine z_getI (v := 2) rfl rfl (hh) ?_
  refine z_pushI (z := 2) rfl rfl ?_
  refine z_icmp_eqT rfl (by decide) (by decide) (by decide) ?_
  refine z_iload rfl rfl ?_
  refine z_if_lt rfl (by omega) (fun h1 => ?_) (fun h1 => ?_)
  · refine z_pushI (z := (-13)) rfl rfl ?_
    refine z_iret rfl rfl ?_
    show zW _ _ _ _ _ _ _ _ _ _
    refine z_istore rfl rfl ?_
    refine z_iload rfl rfl ?_
    refine z_if_geF rfl (by decide) (by decide) ?_
    refine z_iload rfl rfl ?_
    refine z_iret rfl rfl ?_
    refine ⟨_, rfl, ?_⟩
    show zW _ _ _ _ [some (.ref 50), some (zi 4), some (zi i), some (zl v), none, none, none] _ _ _ _ _
    refine z_aload rfl rfl ?_
    refine z_iload rfl rfl ?_
    refine z_iload rfl rfl ?_
    refine z_callVi (As := [_, _]) (le := [some _, some _, some _]) rfl rfl rfl (Nat.le_of_ble_eq_true rfl) (Nat.le_of_ble_eq_true rfl) rfl ?_
    refine z_iload rfl rfl ?_
    refine z_callSi (As := [_]) (le := [some _]) rfl rfl (Nat.le_of_ble_eq_true rfl) (Nat.le_of_ble_eq_true rfl) rfl ?_
    refine z_iload rfl rfl ?_
    refine z_pushI (z := 0) rfl rfl ?_
    refine z_pushI (z := 5) rfl rfl ?_
    refine z_callSi (As := [_, _, _]) (le := [some _, some _, some _]) rfl rfl (Nat.le_of_ble_eq_true rfl) (Nat.le_of_ble_eq_true rfl) rfl ?_
    refine z_iload rfl rfl ?_
    refine z_iload rfl rfl ?_
    refine z_icmp_ltF rfl (by decide) (by decide) (by decide) ?_
    refine z_iload rfl rfl ?_
    refine z_iload rfl rfl ?_
    refine z_icmp_gtF rfl (by decide) (by decide) (by decide) ?_
    refine z_pushI (z := 1) rfl rfl ?_
    refine z_goto rfl ?_
    refine z_bret rfl rfl (by decide) ?_
    show zW _ _ _ _ _ _ _ _ _ _
    refine z_bret rfl rfl (by decide) ?_
    show zW _ _ _ _ _ _ _ _ _ _
    refine z_if_neT rfl (by decide) (by decide) ?_
    refine z_aload rfl rfl ?_
    refine z_getR (r := 83) rfl rfl (hRr _ rm_50_58 (by decide)) ?_
    refine z_iload rfl rfl ?_
    refine z_iald (v := (-6)) rfl rfl (by decide) (by decide) ((e83.trans (by rw [hso]; rfl))) ?_
    refine z_pushI (z := (-1)) rfl rfl ?_
    refine z_icmp_neT rfl (by decide) (by decide) (by decide) ?_
    refine z_aload rfl rfl ?_
    refine z_getR (r := 83) rfl rfl (hRr _ rm_50_58 (by decide)) ?_
    refine z_iload rfl rfl ?_
    refine z_iald (v := (-6)) rfl rfl (by decide) (by decide) ((e83.trans (by rw [hso]; rfl))) ?_
    refine z_if_ltT rfl (by decide) (by decide) ?_
    refine z_iload rfl rfl ?_
    refine z_pushI (z := 0) rfl rfl ?_
    refine z_aload rfl rfl ?_
    refine z_getR (r := 84) rfl rfl (hRr _ rm_50_59 (by decide)) ?_
    refine z_iload rfl rfl ?_
    refine z_iald (v := J 46 3) rfl rfl (by decide) (by decide) (s7) ?_
    refine z_pushI (z := 1) rfl rfl ?_
    refine z_isub (e := (J 46 3) - 1) rfl rfl ?_
    refine z_callSi (As := [_, _, _]) (le := [some _, some _, some _]) rfl rfl (Nat.le_of_ble_eq_true rfl) (Nat.le_of_ble_eq_true rfl) rfl ?_
    refine z_iload rfl rfl ?_
    refine z_iload rfl rfl ?_
    refine z_icmp_ltT rfl (by omega) (by decide) (by omega) ?_
    refine z_pushI (z := 0) rfl rfl ?_
    refine z_bret rfl rfl (by decide) ?_
    show zW _ _ _ _ _ _ _ _ _ _
    refine z_if_eqT rfl (by decide) (by decide) ?_
    refine z_pushI (z := (-13)) rfl rfl ?_
    refine z_iret rfl rfl ?_
    show zW _ _ _ _ _ _ _ _ _ _
    refine z_istore rfl rfl ?_
    refine z_iload rfl rfl ?_
    refine z_if_geF rfl (by decide) (by decide) ?_
    refine z_iload rfl rfl ?_
    refine z_iret rfl rfl ?_
    refine ⟨?_, ?_⟩
    · first | rfl | exact congrArg (fun v => some (zi v)) (by omega) | (exfalso; omega)
    · exact hr
  · refine z_iload rfl rfl ?_
    refine z_aload rfl rfl ?_
    refine z_getI (v := J 46 3) rfl rfl (rfl) ?_
    refine z_icmp_ge rfl (by omega) (by omega) (fun h2 => ?_) (fun h2 => ?_)
    · refine z_pushI (z := (-13)) rfl rfl ?_
      refine z_iret rfl rfl ?_
      show zW _ _ _ _ _ _ _ _ _ _
      refine z_istore rfl rfl ?_
      refine z_iload rfl rfl ?_
      refine z_if_geF rfl (by decide) (by decide) ?_
      refine z_iload rfl rfl ?_
      refine z_iret rfl rfl ?_
      refine ⟨_, rfl, ?_⟩
      show zW _ _ _ _ [some (.ref 50), some (zi 4), some (zi i), some (zl v), none, none, none] _ _ _ _ _
      refine z_aload rfl rfl ?_
      refine z_iload rfl rfl ?_
      refine z_iload rfl rfl ?_
      refine z_callVi (As := [_, _]) (le := [some _, some _, some _]) rfl rfl rfl (Nat.le_of_ble_eq_true rfl) (Nat.le_of_ble_eq_true rfl) rfl ?_
      refine z_iload rfl rfl ?_
      refine z_callSi (As := [_]) (le := [some _]) rfl rfl (Nat.le_of_ble_eq_true rfl) (Nat.le_of_ble_eq_true rfl) rfl ?_
      refine z_iload rfl rfl ?_
      refine z_pushI (z := 0) rfl rfl ?_
      refine z_pushI (z := 5) rfl rfl ?_
      refine z_callSi (As := [_, _, _]) (le := [some _, some _, some _]) rfl rfl (Nat.le_of_ble_eq_true rfl) (Nat.le_of_ble_eq_true rfl) rfl ?_
      refine z_iload rfl rfl ?_
      refine z_iload rfl rfl ?_
      refine z_icmp_ltF rfl (by decide) (by decide) (by decide) ?_
      refine z_iload rfl rfl ?_
      refine z_iload rfl rfl ?_
      refine z_icmp_gtF rfl (by decide) (by decide) (by decide) ?_
      refine z_pushI (z := 1) rfl rfl ?_
      refine z_goto rfl ?_
      refine z_bret rfl rfl (by decide) ?_
      show zW _ _ _ _ _ _ _ _ _ _
      refine z_bret rfl rfl (by decide) ?_
      show zW _ _ _ _ _ _ _ _ _ _
      refine z_if_neT rfl (by decide) (by decide) ?_
      refine z_aload rfl rfl ?_
      refine z_getR (r := 83) rfl rfl (hRr _ rm_50_58 (by decide)) ?_
      refine z_iload rfl rfl ?_
      refine z_iald (v := (-6)) rfl rfl (by decide) (by decide) ((e83.trans (by rw [hso]; rfl))) ?_
      refine z_pushI (z := (-1)) rfl rfl ?_
      refine z_icmp_neT rfl (by decide) (by decide) (by decide) ?_
      refine z_aload rfl rfl ?_
      refine z_getR (r := 83) rfl rfl (hRr _ rm_50_58 (by decide)) ?_
      refine z_iload rfl rfl ?_
      refine z_iald (v := (-6)) rfl rfl (by decide) (by decide) ((e83.trans (by rw [hso]; rfl))) ?_
      refine z_if_ltT rfl (by decide) (by decide) ?_
      refine z_iload rfl rfl ?_
      refine z_pushI (z := 0) rfl rfl ?_
      refine z_aload rfl rfl ?_
      refine z_getR (r := 84) rfl rfl (hRr _ rm_50_59 (by decide)) ?_
      refine z_iload rfl rfl ?_
      refine z_iald (v := J 46 3) rfl rfl (by decide) (by decide) (s7) ?_
      refine z_pushI (z := 1) rfl rfl ?_
      refine z_isub (e := (J 46 3) - 1) rfl rfl ?_
      refine z_callSi (As := [_, _, _]) (le := [some _, some _, some _]) rfl rfl (Nat.le_of_ble_eq_true rfl) (Nat.le_of_ble_eq_true rfl) rfl ?_
      refine z_iload rfl rfl ?_
      refine z_iload rfl rfl ?_
      refine z_icmp_ltF rfl (by omega) (by decide) (by omega) ?_
      refine z_iload rfl rfl ?_
      refine z_iload rfl rfl ?_
      refine z_icmp_gtT rfl (by omega) (by omega) (by omega) ?_
      refine z_pushI (z := 0) rfl rfl ?_
      refine z_bret rfl rfl (by decide) ?_
      show zW _ _ _ _ _ _ _ _ _ _
      refine z_if_eqT rfl (by decide) (by decide) ?_
      refine z_pushI (z := (-13)) rfl rfl ?_
      refine z_iret rfl rfl ?_
      show zW _ _ _ _ _ _ _ _ _ _
      refine z_istore rfl rfl ?_
      refine z_iload rfl rfl ?_
      refine z_if_geF rfl (by decide) (by decide) ?_
      refine z_iload rfl rfl ?_
      refine z_iret rfl rfl ?_
      refine ⟨?_, ?_⟩
      · first | rfl | exact congrArg (fun v => some (zi v)) (by omega) | (exfalso; omega)
      · exact hr
    · refine z_pushI (z := 0) rfl rfl ?_
      refine z_goto rfl ?_
      refine z_iret rfl rfl ?_
      show zW _ _ _ _ _ _ _ _ _ _
      refine z_istore rfl rfl ?_
      refine z_iload rfl rfl ?_
      refine z_if_geT rfl (by decide) (by decide) ?_
      refine z_aload rfl rfl ?_
      refine z_getR (r := 37) rfl rfl (hR _ rm_0_11) ?_
      refine z_iload rfl rfl ?_
      refine z_aald (r := 46) rfl rfl (by decide) (by decide) (hR _ rm_37_4) ?_
      refine z_iload rfl rfl ?_
      refine z_lload rfl rfl ?_
      refine z_callVi (As := [_, _]) (le := [some _, some _, some _, none]) rfl rfl rfl (Nat.le_of_ble_eq_true rfl) (Nat.le_of_ble_eq_true rfl) rfl ?_
      refine z_iload rfl rfl ?_
      refine z_if_ltF rfl (by omega) (by omega) ?_
      refine z_iload rfl rfl ?_
      refine z_aload rfl rfl ?_
      refine z_getI (v := J 46 3) rfl rfl (rfl) ?_
      refine z_icmp_geF rfl (by omega) (by omega) (by omega) ?_
      refine z_aload rfl rfl ?_
      refine z_getR (r := 47) rfl rfl (hR _ rm_46_4) ?_
      refine z_iload rfl rfl ?_
      refine z_aload rfl rfl ?_
      refine z_lload rfl rfl ?_
      refine z_callVi (As := [_]) (le := [some _, some _, none]) rfl rfl rfl (Nat.le_of_ble_eq_true rfl) (Nat.le_of_ble_eq_true rfl) rfl ?_
      refine z_aload rfl rfl ?_
      refine z_getI (v := 4) rfl rfl (hso) ?_
      refine z_swI (tg := 54) rfl (by decide) (T := [((0 : Int), 40), ((1 : Int), 45), ((2 : Int), 50), ((3 : Int), 66), ((4 : Int), 54)]) rfl (by decide) ?_
      refine z_lload rfl rfl ?_
      refine z_pushL (z := 0) rfl rfl ?_
      refine z_lcmp_eq rfl rfl (by omega) (by omega) (fun h3 => ?_) (fun h3 => ?_)
      · refine z_pushL (z := 0) rfl rfl ?_
        refine z_lret rfl rfl ?_
        show zW _ _ _ _ _ _ _ _ _ _
        refine z_last (e := 0) rfl rfl (by decide) (by omega) rfl ?_
        refine z_vret rfl rfl ?_
        show zW _ _ _ _ _ _ _ _ _ _
        refine z_pushI (z := 1) rfl rfl ?_
        refine z_iret rfl rfl ?_
        refine ⟨_, rfl, ?_⟩
        show zW _ _ _ _ [some (.ref 50), some (zi 4), some (zi i), some (zl v), none, none, none] _ _ _ _ _
        refine z_aload rfl rfl ?_
        refine z_iload rfl rfl ?_
        refine z_iload rfl rfl ?_
        refine z_callVi (As := [_, _]) (le := [some _, some _, some _]) rfl rfl rfl (Nat.le_of_ble_eq_true rfl) (Nat.le_of_ble_eq_true rfl) rfl ?_
        refine z_iload rfl rfl ?_
        refine z_callSi (As := [_]) (le := [some _]) rfl rfl (Nat.le_of_ble_eq_true rfl) (Nat.le_of_ble_eq_true rfl) rfl ?_
        refine z_iload rfl rfl ?_
        refine z_pushI (z := 0) rfl rfl ?_
        refine z_pushI (z := 5) rfl rfl ?_
        refine z_callSi (As := [_, _, _]) (le := [some _, some _, some _]) rfl rfl (Nat.le_of_ble_eq_true rfl) (Nat.le_of_ble_eq_true rfl) rfl ?_
        refine z_iload rfl rfl ?_
        refine z_iload rfl rfl ?_
        refine z_icmp_ltF rfl (by decide) (by decide) (by decide) ?_
        refine z_iload rfl rfl ?_
        refine z_iload rfl rfl ?_
        refine z_icmp_gtF rfl (by decide) (by decide) (by decide) ?_
        refine z_pushI (z := 1) rfl rfl ?_
        refine z_goto rfl ?_
        refine z_bret rfl rfl (by decide) ?_
        show zW _ _ _ _ _ _ _ _ _ _
        refine z_bret rfl rfl (by decide) ?_
        show zW _ _ _ _ _ _ _ _ _ _
        refine z_if_neT rfl (by decide) (by decide) ?_
        refine z_aload rfl rfl ?_
        refine z_getR (r := 83) rfl rfl (hRr _ rm_50_58 (by decide)) ?_
        refine z_iload rfl rfl ?_
        refine z_iald (v := (-6)) rfl rfl (by decide) (by decide) ((e83.trans (by rw [hso]; rfl))) ?_
        refine z_pushI (z := (-1)) rfl rfl ?_
        refine z_icmp_neT rfl (by decide) (by decide) (by decide) ?_
        refine z_aload rfl rfl ?_
        refine z_getR (r := 83) rfl rfl (hRr _ rm_50_58 (by decide)) ?_
        refine z_iload rfl rfl ?_
        refine z_iald (v := (-6)) rfl rfl (by decide) (by decide) ((e83.trans (by rw [hso]; rfl))) ?_
        refine z_if_ltT rfl (by decide) (by decide) ?_
        refine z_iload rfl rfl ?_
        refine z_pushI (z := 0) rfl rfl ?_
        refine z_aload rfl rfl ?_
        refine z_getR (r := 84) rfl rfl (hRr _ rm_50_59 (by decide)) ?_
        refine z_iload rfl rfl ?_
        refine z_iald (v := J 46 3) rfl rfl (by decide) (by decide) (s7) ?_
        refine z_pushI (z := 1) rfl rfl ?_
        refine z_isub (e := (J 46 3) - 1) rfl rfl ?_
        refine z_callSi (As := [_, _, _]) (le := [some _, some _, some _]) rfl rfl (Nat.le_of_ble_eq_true rfl) (Nat.le_of_ble_eq_true rfl) rfl ?_
        refine z_iload rfl rfl ?_
        refine z_iload rfl rfl ?_
        refine z_icmp_ltF rfl (by omega) (by decide) (by omega) ?_
        refine z_iload rfl rfl ?_
        refine z_iload rfl rfl ?_
        refine z_icmp_gtF rfl (by omega) (by omega) (by omega) ?_
        refine z_pushI (z := 1) rfl rfl ?_
        refine z_goto rfl ?_
        refine z_bret rfl rfl (by decide) ?_
        show zW _ _ _ _ _ _ _ _ _ _
        refine z_if_eqF rfl (by decide) (by decide) ?_
        refine z_pushI (z := 0) rfl rfl ?_
        refine z_goto rfl ?_
        refine z_iret rfl rfl ?_
        show zW _ _ _ _ _ _ _ _ _ _
        refine z_istore rfl rfl ?_
        refine z_iload rfl rfl ?_
        refine z_if_geT rfl (by decide) (by decide) ?_
        refine z_pushI (z := (-2)) rfl rfl ?_
        refine z_aload rfl rfl ?_
        refine z_getR (r := 83) rfl rfl (hRr _ rm_50_58 (by decide)) ?_
        refine z_iload rfl rfl ?_
        refine z_iald (v := (-6)) rfl rfl (by decide) (by decide) ((e83.trans (by rw [hso]; rfl))) ?_
        refine z_isub (e := 4) rfl rfl ?_
        refine z_istore rfl rfl ?_
        refine z_aload rfl rfl ?_
        refine z_getR (r := 85) rfl rfl (hRr _ rm_50_60 (by decide)) ?_
        refine z_pushI (z := 60) rfl rfl ?_
        refine z_iload rfl rfl ?_
        refine z_imul (e := 240) rfl rfl ?_
        refine z_iload rfl rfl ?_
        refine z_iadd (e := 240 + i) rfl rfl ?_
        refine z_iload rfl rfl ?_
        refine z_if_neT rfl (by decide) (by decide) ?_
        refine z_iload rfl rfl ?_
        refine z_pushI (z := 1) rfl rfl ?_
        refine z_icmp_neT rfl (by decide) (by decide) (by decide) ?_
        refine z_iload rfl rfl ?_
        refine z_pushI (z := 2) rfl rfl ?_
        refine z_icmp_neT rfl (by decide) (by decide) (by decide) ?_
        refine z_iload rfl rfl ?_
        refine z_pushI (z := 3) rfl rfl ?_
        refine z_icmp_neT rfl (by decide) (by decide) (by decide) ?_
        refine z_lload rfl rfl ?_
        refine z_pushL (z := 0) rfl rfl ?_
        refine z_lcmp_eq rfl rfl (by omega) (by omega) (fun h4 => ?_) (fun h4 => ?_)
        · refine z_pushL (z := 0) rfl rfl ?_
          refine z_last (e := 0) rfl rfl (by decide) (by omega) rfl ?_
          refine z_pushI (z := 1) rfl rfl ?_
          refine z_iret rfl rfl ?_
          refine ⟨?_, ?_⟩
          · first | rfl | exact congrArg (fun v => some (zi v)) (by omega) | (exfalso; omega)
          · have hk := (zK_r (k := (kL [] [])) (A := J))
            have hkm := (zK_x (a := 85) (x := 240 + i) (v := 0) (zK_x (a := 47) (x := i) (v := 0) (zK_r (k := (kL [47, 85] [])) (A := M)) rfl) rfl)
            exact ⟨hR, hG, RelY_k hk (by repeat' constructor) (fun p => by repeat' constructor) hY, RelD_k hk (by repeat' constructor) (fun p => by repeat' constructor) hD, RelP_k hk (by repeat' constructor) (fun p => by repeat' constructor) hP, RelC_k hk (by repeat' constructor) (fun p => by repeat' constructor) hC, RelA_k hk (by repeat' constructor) (fun p => by repeat' constructor) hAc, (RelS_one (J := J) (M := M) (c := 4) (fun t t1 t2 te => by have q : t = 0 ∨ t = 1 ∨ t = 2 ∨ t = 3 ∨ t = 4 ∨ t = 5 := (by omega); rcases q with rfl | rfl | rfl | rfl | rfl | rfl <;> first | exact absurd rfl te | exact ⟨fun j => rfl, rfl, rfl⟩) (fun t t1 t2 te => by have q : t = 0 ∨ t = 1 ∨ t = 2 ∨ t = 3 ∨ t = 4 ∨ t = 5 := (by omega); rcases q with rfl | rfl | rfl | rfl | rfl | rfl <;> first | exact absurd rfl te | exact ⟨fun j => rfl, fun j j1 j2 => (zU_x (by omega)).trans (zU_n (by decide))⟩) rfl (show RelS1 _ _ _ from ⟨(hS 4 (by decide) (by decide)).1, (hS 4 (by decide) (by decide)).2.1, s3, s4, (hS 4 (by decide) (by decide)).2.2.2.2.1, fun _ => ⟨s7.symm, fun k k1 k2 => by show (if k = i then 0 else M 47 k) = (if 240 + k = 240 + i then 0 else M 85 (240 + k)); by_cases e : k = i; rw [if_pos e, if_pos (by omega)]; rw [if_neg e, if_neg (by omega)]; exact s8 k k1 k2, (fun hq => absurd (Eq.trans (Eq.symm hq) hso) (by decide))⟩⟩) hS), RelT_k hk (by repeat' constructor) (fun p => by repeat' constructor) hTp, RelX_k hk (by repeat' constructor) (fun p => by repeat' constructor) hX, RelW_k hk ⟨rfl, rfl⟩ trivial hW⟩
        · refine z_pushL (z := 1) rfl rfl ?_
          refine z_goto rfl ?_
          refine z_last (e := 1) rfl rfl (by decide) (by omega) rfl ?_
          refine z_pushI (z := 1) rfl rfl ?_
          refine z_iret rfl rfl ?_
          refine ⟨?_, ?_⟩
          · first | rfl | exact congrArg (fun v => some (zi v)) (by omega) | (exfalso; omega)
          · exfalso
            omega
      · refine z_pushL (z := 1) rfl rfl ?_
        refine z_goto rfl ?_
        refine z_lret rfl rfl ?_
        show zW _ _ _ _ _ _ _ _ _ _
        refine z_last (e := 1) rfl rfl (by decide) (by omega) rfl ?_
        refine z_vret rfl rfl ?_
        show zW _ _ _ _ _ _ _ _ _ _
        refine z_pushI (z := 1) rfl rfl ?_
        refine z_iret rfl rfl ?_
        refine ⟨_, rfl, ?_⟩
        show zW _ _ _ _ [some (.ref 50), some (zi 4), some (zi i), some (zl v), none, none, none] _ _ _ _ _
        refine z_aload rfl rfl ?_
        refine z_iload rfl rfl ?_
        refine z_iload rfl rfl ?_
        refine z_callVi (As := [_, _]) (le := [some _, some _, some _]) rfl rfl rfl (Nat.le_of_ble_eq_true rfl) (Nat.le_of_ble_eq_true rfl) rfl ?_
        refine z_iload rfl rfl ?_
        refine z_callSi (As := [_]) (le := [some _]) rfl rfl (Nat.le_of_ble_eq_true rfl) (Nat.le_of_ble_eq_true rfl) rfl ?_
        refine z_iload rfl rfl ?_
        refine z_pushI (z := 0) rfl rfl ?_
        refine z_pushI (z := 5) rfl rfl ?_
        refine z_callSi (As := [_, _, _]) (le := [some _, some _, some _]) rfl rfl (Nat.le_of_ble_eq_true rfl) (Nat.le_of_ble_eq_true rfl) rfl ?_
        refine z_iload rfl rfl ?_
        refine z_iload rfl rfl ?_
        refine z_icmp_ltF rfl (by decide) (by decide) (by decide) ?_
        refine z_iload rfl rfl ?_
        refine z_iload rfl rfl ?_
        refine z_icmp_gtF rfl (by decide) (by decide) (by decide) ?_
        refine z_pushI (z := 1) rfl rfl ?_
        refine z_goto rfl ?_
        refine z_bret rfl rfl (by decide) ?_
        show zW _ _ _ _ _ _ _ _ _ _
        refine z_bret rfl rfl (by decide) ?_
        show zW _ _ _ _ _ _ _ _ _ _
        refine z_if_neT rfl (by decide) (by decide) ?_
        refine z_aload rfl rfl ?_
        refine z_getR (r := 83) rfl rfl (hRr _ rm_50_58 (by decide)) ?_
        refine z_iload rfl rfl ?_
        refine z_iald (v := (-6)) rfl rfl (by decide) (by decide) ((e83.trans (by rw [hso]; rfl))) ?_
        refine z_pushI (z := (-1)) rfl rfl ?_
        refine z_icmp_neT rfl (by decide) (by decide) (by decide) ?_
        refine z_aload rfl rfl ?_
        refine z_getR (r := 83) rfl rfl (hRr _ rm_50_58 (by decide)) ?_
        refine z_iload rfl rfl ?_
        refine z_iald (v := (-6)) rfl rfl (by decide) (by decide) ((e83.trans (by rw [hso]; rfl))) ?_
        refine z_if_ltT rfl (by decide) (by decide) ?_
        refine z_iload rfl rfl ?_
        refine z_pushI (z := 0) rfl rfl ?_
        refine z_aload rfl rfl ?_
        refine z_getR (r := 84) rfl rfl (hRr _ rm_50_59 (by decide)) ?_
        refine z_iload rfl rfl ?_
        refine z_iald (v := J 46 3) rfl rfl (by decide) (by decide) (s7) ?_
        refine z_pushI (z := 1) rfl rfl ?_
        refine z_isub (e := (J 46 3) - 1) rfl rfl ?_
        refine z_callSi (As := [_, _, _]) (le := [some _, some _, some _]) rfl rfl (Nat.le_of_ble_eq_true rfl) (Nat.le_of_ble_eq_true rfl) rfl ?_
        refine z_iload rfl rfl ?_
        refine z_iload rfl rfl ?_
        refine z_icmp_ltF rfl (by omega) (by decide) (by omega) ?_
        refine z_iload rfl rfl ?_
        refine z_iload rfl rfl ?_
        refine z_icmp_gtF rfl (by omega) (by omega) (by omega) ?_
        refine z_pushI (z := 1) rfl rfl ?_
        refine z_goto rfl ?_
        refine z_bret rfl rfl (by decide) ?_
        show zW _ _ _ _ _ _ _ _ _ _
        refine z_if_eqF rfl (by decide) (by decide) ?_
        refine z_pushI (z := 0) rfl rfl ?_
        refine z_goto rfl ?_
        refine z_iret rfl rfl ?_
        show zW _ _ _ _ _ _ _ _ _ _
        refine z_istore rfl rfl ?_
        refine z_iload rfl rfl ?_
        refine z_if_geT rfl (by decide) (by decide) ?_
        refine z_pushI (z := (-2)) rfl rfl ?_
        refine z_aload rfl rfl ?_
        refine z_getR (r := 83) rfl rfl (hRr _ rm_50_58 (by decide)) ?_
        refine z_iload rfl rfl ?_
        refine z_iald (v := (-6)) rfl rfl (by decide) (by decide) ((e83.trans (by rw [hso]; rfl))) ?_
        refine z_isub (e := 4) rfl rfl ?_
        refine z_istore rfl rfl ?_
        refine z_aload rfl rfl ?_
        refine z_getR (r := 85) rfl rfl (hRr _ rm_50_60 (by decide)) ?_
        refine z_pushI (z := 60) rfl rfl ?_
        refine z_iload rfl rfl ?_
        refine z_imul (e := 240) rfl rfl ?_
        refine z_iload rfl rfl ?_
        refine z_iadd (e := 240 + i) rfl rfl ?_
        refine z_iload rfl rfl ?_
        refine z_if_neT rfl (by decide) (by decide) ?_
        refine z_iload rfl rfl ?_
        refine z_pushI (z := 1) rfl rfl ?_
        refine z_icmp_neT rfl (by decide) (by decide) (by decide) ?_
        refine z_iload rfl rfl ?_
        refine z_pushI (z := 2) rfl rfl ?_
        refine z_icmp_neT rfl (by decide) (by decide) (by decide) ?_
        refine z_iload rfl rfl ?_
        refine z_pushI (z := 3) rfl rfl ?_
        refine z_icmp_neT rfl (by decide) (by decide) (by decide) ?_
        refine z_lload rfl rfl ?_
        refine z_pushL (z := 0) rfl rfl ?_
        refine z_lcmp_eq rfl rfl (by omega) (by omega) (fun h4 => ?_) (fun h4 => ?_)
        · refine z_pushL (z := 0) rfl rfl ?_
          refine z_last (e := 0) rfl rfl (by decide) (by omega) rfl ?_
          refine z_pushI (z := 1) rfl rfl ?_
          refine z_iret rfl rfl ?_
          refine ⟨?_, ?_⟩
          · first | rfl | exact congrArg (fun v => some (zi v)) (by omega) | (exfalso; omega)
          · exfalso
            omega
        · refine z_pushL (z := 1) rfl rfl ?_
          refine z_goto rfl ?_
          refine z_last (e := 1) rfl rfl (by decide) (by omega) rfl ?_
          refine z_pushI (z := 1) rfl rfl ?_
          refine z_iret rfl rfl ?_
          refine ⟨?_, ?_⟩
          · first | rfl | exact congrArg (fun v => some (zi v)) (by omega) | (exfalso; omega)
          · have hk := (zK_r (k := (kL [] [])) (A := J))
            have hkm := (zK_x (a := 85) (x := 240 + i) (v := 1) (zK_x (a := 47) (x := i) (v := 1) (zK_r (k := (kL [47, 85] [])) (A := M)) rfl) rfl)
            exact ⟨hR, hG, RelY_k hk (by repeat' constructor) (fun p => by repeat' constructor) hY, RelD_k hk (by repeat' constructor) (fun p => by repeat' constructor) hD, RelP_k hk (by repeat' constructor) (fun p => by repeat' constructor) hP, RelC_k hk (by repeat' constructor) (fun p => by repeat' constructor) hC, RelA_k hk (by repeat' constructor) (fun p => by repeat' constructor) hAc, (RelS_one (J := J) (M := M) (c := 4) (fun t t1 t2 te => by have q : t = 0 ∨ t = 1 ∨ t = 2 ∨ t = 3 ∨ t = 4 ∨ t = 5 := (by omega); rcases q with rfl | rfl | rfl | rfl | rfl | rfl <;> first | exact absurd rfl te | exact ⟨fun j => rfl, rfl, rfl⟩) (fun t t1 t2 te => by have q : t = 0 ∨ t = 1 ∨ t = 2 ∨ t = 3 ∨ t = 4 ∨ t = 5 := (by omega); rcases q with rfl | rfl | rfl | rfl | rfl | rfl <;> first | exact absurd rfl te | exact ⟨fun j => rfl, fun j j1 j2 => (zU_x (by omega)).trans (zU_n (by decide))⟩) rfl (show RelS1 _ _ _ from ⟨(hS 4 (by decide) (by decide)).1, (hS 4 (by decide) (by decide)).2.1, s3, s4, (hS 4 (by decide) (by decide)).2.2.2.2.1, fun _ => ⟨s7.symm, fun k k1 k2 => by show (if k = i then 1 else M 47 k) = (if 240 + k = 240 + i then 1 else M 85 (240 + k)); by_cases e : k = i; rw [if_pos e, if_pos (by omega)]; rw [if_neg e, if_neg (by omega)]; exact s8 k k1 k2, (fun hq => absurd (Eq.trans (Eq.symm hq) hso) (by decide))⟩⟩) hS), RelT_k hk (by repeat' constructor) (fun p => by repeat' constructor) hTp, RelX_k hk (by repeat' constructor) (fun p => by repeat' constructor) hX, RelW_k hk ⟨rfl, rfl⟩ trivial hW⟩
theorem st_element_50 {X : Nat × (Nat → Int32)} {d : Nat} {J M : zA} {R : zR} {i : Int} (hr : Rel X J M R) (hi : -2147483648 ≤ i ∧ i < 2147483648) (hh : J 48 0 = 0) : zW X (d + 20) 139 0 (gEn 139 [(.ref 0), (zi 5), (zi i)]) [] J M R (stL X (d + 20) 253 [(zi 5), (zi i)]) := by
  have hr0 := hr
  obtain ⟨hR, hG, hY, hD, hP, hC, hAc, hS, hTp, hX, hW⟩ := hr0
  have hRr : zRoR R := zRoR_of hR
  have hA0 := hAc
  obtain ⟨a1, a2, a3, a4, a5, a6⟩ := hA0
  have e83 : J 83 5 = -1 := (hS 5 (by decide) (by decide)).1.symm.trans (cH_0 hh)
  have s3 : 0 ≤ J 48 2 ∧ J 48 2 ≤ 4 := (hS 5 (by decide) (by decide)).2.2.1
  have s4 : 0 ≤ J 48 3 ∧ J 48 3 ≤ 60 := (hS 5 (by decide) (by decide)).2.2.2.1
  show zW _ _ _ _ [some (.ref 0), some (zi 5), some (zi i)] _ _ _ _ _
  refine z_iload rfl rfl ?_
  refine z_callSi (As := [_]) (le := [some _]) rfl rfl (Nat.le_of_ble_eq_true rfl) (Nat.le_of_ble_eq_true rfl) rfl ?_
  refine z_iload rfl rfl ?_
  refine z_if_ltF rfl (by decide) (by decide) ?_
  refine z_iload rfl rfl ?_
  refine z_pushI (z := 6) rfl rfl ?_
  refine z_icmp_geF rfl (by decide) (by decide) (by decide) ?_
  refine z_pushI (z := 1) rfl rfl ?_
  refine z_goto rfl ?_
  refine z_bret rfl rfl (by decide) ?_
  show zW _ _ _ _ _ _ _ _ _ _
  refine z_if_eqF rfl (by decide) (by decide) ?_
  refine z_aload rfl rfl ?_
  refine z_getR (r := 37) rfl rfl (hR _ rm_0_11) ?_
  refine z_iload rfl rfl ?_
  refine z_aald (r := 48) rfl rfl (by decide) (by decide) (hR _ rm_37_5) ?_
  refine z_iload rfl rfl ?_
  refine z_callVi (As := [_]) (le := [some _, some _]) rfl rfl rfl (Nat.le_of_ble_eq_true rfl) (Nat.le_of_ble_eq_true rfl) rfl ?_
  refine z_aload rfl rfl ?_
  refine z_getI (v := 0) rfl rfl (hh) ?_
  refine z_if_neF rfl (by decide) (by decide) ?_
  refine z_pushI (z := (-11)) rfl rfl ?_
  refine z_iret rfl rfl ?_
  show zW _ _ _ _ _ _ _ _ _ _
  refine z_if_geF rfl (by decide) (by decide) ?_
  refine z_pushL (z := (-9223372036854775808)) rfl rfl ?_
  refine z_lret rfl rfl ?_
  refine ⟨_, rfl, ?_⟩
  show zW _ _ _ _ [some (.ref 50), some (zi 5), some (zi i)] _ _ _ _ _
  refine z_aload rfl rfl ?_
  refine z_iload rfl rfl ?_
  refine z_iload rfl rfl ?_
  refine z_callVi (As := [_, _]) (le := [some _, some _, some _]) rfl rfl rfl (Nat.le_of_ble_eq_true rfl) (Nat.le_of_ble_eq_true rfl) rfl ?_
  refine z_iload rfl rfl ?_
  refine z_callSi (As := [_]) (le := [some _]) rfl rfl (Nat.le_of_ble_eq_true rfl) (Nat.le_of_ble_eq_true rfl) rfl ?_
  refine z_iload rfl rfl ?_
  refine z_pushI (z := 0) rfl rfl ?_
  refine z_pushI (z := 5) rfl rfl ?_
  refine z_callSi (As := [_, _, _]) (le := [some _, some _, some _]) rfl rfl (Nat.le_of_ble_eq_true rfl) (Nat.le_of_ble_eq_true rfl) rfl ?_
  refine z_iload rfl rfl ?_
  refine z_iload rfl rfl ?_
  refine z_icmp_ltF rfl (by decide) (by decide) (by decide) ?_
  refine z_iload rfl rfl ?_
  refine z_iload rfl rfl ?_
  refine z_icmp_gtF rfl (by decide) (by decide) (by decide) ?_
  refine z_pushI (z := 1) rfl rfl ?_
  refine z_goto rfl ?_
  refine z_bret rfl rfl (by decide) ?_
  show zW _ _ _ _ _ _ _ _ _ _
  refine z_bret rfl rfl (by decide) ?_
  show zW _ _ _ _ _ _ _ _ _ _
  refine z_if_neT rfl (by decide) (by decide) ?_
  refine z_aload rfl rfl ?_
  refine z_getR (r := 83) rfl rfl (hRr _ rm_50_58 (by decide)) ?_
  refine z_iload rfl rfl ?_
  refine z_iald (v := (-1)) rfl rfl (by decide) (by decide) (e83) ?_
  refine z_pushI (z := (-1)) rfl rfl ?_
  refine z_icmp_neF rfl (by decide) (by decide) (by decide) ?_
  refine z_pushI (z := (-11)) rfl rfl ?_
  refine z_iret rfl rfl ?_
  show zW _ _ _ _ _ _ _ _ _ _
  refine z_if_geF rfl (by decide) (by decide) ?_
  refine z_pushL (z := (-9223372036854775808)) rfl rfl ?_
  refine z_goto rfl ?_
  refine z_lret rfl rfl ?_
  refine ⟨?_, ?_⟩
  · first | rfl | exact congrArg (fun v => some (zl v)) (by omega) | (exfalso; omega)
  · exact hr
theorem st_put_50 {X : Nat × (Nat → Int32)} {d : Nat} {J M : zA} {R : zR} {i v : Int} (hr : Rel X J M R) (hi : -2147483648 ≤ i ∧ i < 2147483648) (hv : -9223372036854775808 ≤ v ∧ v < 9223372036854775808) (hh : J 48 0 = 0) : zW X (d + 20) 138 0 (gEn 138 [(.ref 0), (zi 5), (zi i), (zl v)]) [] J M R (stP X (d + 20) 252 [(zi 5), (zi i), (zl v)]) := by
  have hr0 := hr
  obtain ⟨hR, hG, hY, hD, hP, hC, hAc, hS, hTp, hX, hW⟩ := hr0
  have hRr : zRoR R := zRoR_of hR
  have hA0 := hAc
  obtain ⟨a1, a2, a3, a4, a5, a6⟩ := hA0
  have e83 : J 83 5 = -1 := (hS 5 (by decide) (by decide)).1.symm.trans (cH_0 hh)
  have s3 : 0 ≤ J 48 2 ∧ J 48 2 ≤ 4 := (hS 5 (by decide) (by decide)).2.2.1
  have s4 : 0 ≤ J 48 3 ∧ J 48 3 ≤ 60 := (hS 5 (by decide) (by decide)).2.2.2.1
  show zW _ _ _ _ [some (.ref 0), some (zi 5), some (zi i), some (zl v), none, none] _ _ _ _ _
  refine z_iload rfl rfl ?_
  refine z_callSi (As := [_]) (le := [some _]) rfl rfl (Nat.le_of_ble_eq_true rfl) (Nat.le_of_ble_eq_true rfl) rfl ?_
  refine z_iload rfl rfl ?_
  refine z_if_ltF rfl (by decide) (by decide) ?_
  refine z_iload rfl rfl ?_
  refine z_pushI (z := 6) rfl rfl ?_
  refine z_icmp_geF rfl (by decide) (by decide) (by decide) ?_
  refine z_pushI (z := 1) rfl rfl ?_
  refine z_goto rfl ?_
  refine z_bret rfl rfl (by decide) ?_
  show zW _ _ _ _ _ _ _ _ _ _
  refine z_if_neT rfl (by decide) (by decide) ?_
  refine z_aload rfl rfl ?_
  refine z_getR (r := 37) rfl rfl (hR _ rm_0_11) ?_
  refine z_iload rfl rfl ?_
  refine z_aald (r := 48) rfl rfl (by decide) (by decide) (hR _ rm_37_5) ?_
  refine z_iload rfl rfl ?_
  refine z_callVi (As := [_]) (le := [some _, some _]) rfl rfl rfl (Nat.le_of_ble_eq_true rfl) (Nat.le_of_ble_eq_true rfl) rfl ?_
  refine z_aload rfl rfl ?_
  refine z_getI (v := 0) rfl rfl (hh) ?_
  refine z_if_neF rfl (by decide) (by decide) ?_
  refine z_pushI (z := (-11)) rfl rfl ?_
  refine z_iret rfl rfl ?_
  show zW _ _ _ _ _ _ _ _ _ _
  refine z_istore rfl rfl ?_
  refine z_iload rfl rfl ?_
  refine z_if_geF rfl (by decide) (by decide) ?_
  refine z_iload rfl rfl ?_
  refine z_iret rfl rfl ?_
  refine ⟨_, rfl, ?_⟩
  show zW _ _ _ _ [some (.ref 50), some (zi 5), some (zi i), some (zl v), none, none, none] _ _ _ _ _
  refine z_aload rfl rfl ?_
  refine z_iload rfl rfl ?_
  refine z_iload rfl rfl ?_
  refine z_callVi (As := [_, _]) (le := [some _, some _, some _]) rfl rfl rfl (Nat.le_of_ble_eq_true rfl) (Nat.le_of_ble_eq_true rfl) rfl ?_
  refine z_iload rfl rfl ?_
  refine z_callSi (As := [_]) (le := [some _]) rfl rfl (Nat.le_of_ble_eq_true rfl) (Nat.le_of_ble_eq_true rfl) rfl ?_
  refine z_iload rfl rfl ?_
  refine z_pushI (z := 0) rfl rfl ?_
  refine z_pushI (z := 5) rfl rfl ?_
  refine z_callSi (As := [_, _, _]) (le := [some _, some _, some _]) rfl rfl (Nat.le_of_ble_eq_true rfl) (Nat.le_of_ble_eq_true rfl) rfl ?_
  refine z_iload rfl rfl ?_
  refine z_iload rfl rfl ?_
  refine z_icmp_ltF rfl (by decide) (by decide) (by decide) ?_
  refine z_iload rfl rfl ?_
  refine z_iload rfl rfl ?_
  refine z_icmp_gtF rfl (by decide) (by decide) (by decide) ?_
  refine z_pushI (z := 1) rfl rfl ?_
  refine z_goto rfl ?_
  refine z_bret rfl rfl (by decide) ?_
  show zW _ _ _ _ _ _ _ _ _ _
  refine z_bret rfl rfl (by decide) ?_
  show zW _ _ _ _ _ _ _ _ _ _
  refine z_if_neT rfl (by decide) (by decide) ?_
  refine z_aload rfl rfl ?_
  refine z_getR (r := 83) rfl rfl (hRr _ rm_50_58 (by decide)) ?_
  refine z_iload rfl rfl ?_
  refine z_iald (v := (-1)) rfl rfl (by decide) (by decide) (e83) ?_
  refine z_pushI (z := (-1)) rfl rfl ?_
  refine z_icmp_neF rfl (by decide) (by decide) (by decide) ?_
  refine z_pushI (z := (-11)) rfl rfl ?_
  refine z_iret rfl rfl ?_
  show zW _ _ _ _ _ _ _ _ _ _
  refine z_istore rfl rfl ?_
  refine z_iload rfl rfl ?_
  refine z_if_geF rfl (by decide) (by decide) ?_
  refine z_iload rfl rfl ?_
  refine z_iret rfl rfl ?_
  refine ⟨?_, ?_⟩
  · first | rfl | exact congrArg (fun v => some (zi v)) (by omega) | (exfalso; omega)
  · exact hr
theorem st_element_51 {X : Nat × (Nat → Int32)} {d : Nat} {J M : zA} {R : zR} {i : Int} (hr : Rel X J M R) (hi : -2147483648 ≤ i ∧ i < 2147483648) (hh : J 48 0 = 1) : zW X (d + 20) 139 0 (gEn 139 [(.ref 0), (zi 5), (zi i)]) [] J M R (stL X (d + 20) 253 [(zi 5), (zi i)]) := by
  have hr0 := hr
  obtain ⟨hR, hG, hY, hD, hP, hC, hAc, hS, hTp, hX, hW⟩ := hr0
  have hRr : zRoR R := zRoR_of hR
  have hA0 := hAc
  obtain ⟨a1, a2, a3, a4, a5, a6⟩ := hA0
  have e83 : J 83 5 = J 48 1 := (hS 5 (by decide) (by decide)).1.symm.trans (cH_1 hh)
  have s3 : 0 ≤ J 48 2 ∧ J 48 2 ≤ 4 := (hS 5 (by decide) (by decide)).2.2.1
  have s4 : 0 ≤ J 48 3 ∧ J 48 3 ≤ 60 := (hS 5 (by decide) (by decide)).2.2.2.1
  have s5 : 0 ≤ J 48 1 ∧ J 48 1 < J 34 1 := (hS 5 (by decide) (by decide)).2.2.2.2.1 hh
  show zW _ _ _ _ [some (.ref 0), some (zi 5), some (zi i)] _ _ _ _ _
  refine z_iload rfl rfl ?_
  refine z_callSi (As := [_]) (le := [some _]) rfl rfl (Nat.le_of_ble_eq_true rfl) (Nat.le_of_ble_eq_true rfl) rfl ?_
  refine z_iload rfl rfl ?_
  refine z_if_ltF rfl (by decide) (by decide) ?_
  refine z_iload rfl rfl ?_
  refine z_pushI (z := 6) rfl rfl ?_
  refine z_icmp_geF rfl (by decide) (by decide) (by decide) ?_
  refine z_pushI (z := 1) rfl rfl ?_
  refine z_goto rfl ?_
  refine z_bret rfl rfl (by decide) ?_
  show zW _ _ _ _ _ _ _ _ _ _
  refine z_if_eqF rfl (by decide) (by decide) ?_
  refine z_aload rfl rfl ?_
  refine z_getR (r := 37) rfl rfl (hR _ rm_0_11) ?_
  refine z_iload rfl rfl ?_
  refine z_aald (r := 48) rfl rfl (by decide) (by decide) (hR _ rm_37_5) ?_
  refine z_iload rfl rfl ?_
  refine z_callVi (As := [_]) (le := [some _, some _]) rfl rfl rfl (Nat.le_of_ble_eq_true rfl) (Nat.le_of_ble_eq_true rfl) rfl ?_
  refine z_aload rfl rfl ?_
  refine z_getI (v := 1) rfl rfl (hh) ?_
  refine z_if_neT rfl (by decide) (by decide) ?_
  refine z_aload rfl rfl ?_
  refine z_getI (v := 1) rfl rfl (hh) ?_
  refine z_pushI (z := 2) rfl rfl ?_
  refine z_icmp_eqF rfl (by decide) (by decide) (by decide) ?_
  refine z_pushI (z := (-12)) rfl rfl ?_
  refine z_iret rfl rfl ?_
  show zW _ _ _ _ _ _ _ _ _ _
  refine z_if_geF rfl (by decide) (by decide) ?_
  refine z_pushL (z := (-9223372036854775808)) rfl rfl ?_
  refine z_lret rfl rfl ?_
  refine ⟨_, rfl, ?_⟩
  show zW _ _ _ _ [some (.ref 50), some (zi 5), some (zi i)] _ _ _ _ _
  refine z_aload rfl rfl ?_
  refine z_iload rfl rfl ?_
  refine z_iload rfl rfl ?_
  refine z_callVi (As := [_, _]) (le := [some _, some _, some _]) rfl rfl rfl (Nat.le_of_ble_eq_true rfl) (Nat.le_of_ble_eq_true rfl) rfl ?_
  refine z_iload rfl rfl ?_
  refine z_callSi (As := [_]) (le := [some _]) rfl rfl (Nat.le_of_ble_eq_true rfl) (Nat.le_of_ble_eq_true rfl) rfl ?_
  refine z_iload rfl rfl ?_
  refine z_pushI (z := 0) rfl rfl ?_
  refine z_pushI (z := 5) rfl rfl ?_
  refine z_callSi (As := [_, _, _]) (le := [some _, some _, some _]) rfl rfl (Nat.le_of_ble_eq_true rfl) (Nat.le_of_ble_eq_true rfl) rfl ?_
  refine z_iload rfl rfl ?_
  refine z_iload rfl rfl ?_
  refine z_icmp_ltF rfl (by decide) (by decide) (by decide) ?_
  refine z_iload rfl rfl ?_
  refine z_iload rfl rfl ?_
  refine z_icmp_gtF rfl (by decide) (by decide) (by decide) ?_
  refine z_pushI (z := 1) rfl rfl ?_
  refine z_goto rfl ?_
  refine z_bret rfl rfl (by decide) ?_
  show zW _ _ _ _ _ _ _ _ _ _
  refine z_bret rfl rfl (by decide) ?_
  show zW _ _ _ _ _ _ _ _ _ _
  refine z_if_neT rfl (by decide) (by decide) ?_
  refine z_aload rfl rfl ?_
  refine z_getR (r := 83) rfl rfl (hRr _ rm_50_58 (by decide)) ?_
  refine z_iload rfl rfl ?_
  refine z_iald (v := J 48 1) rfl rfl (by decide) (by decide) (e83) ?_
  refine z_pushI (z := (-1)) rfl rfl ?_
  refine z_icmp_ne rfl (by omega) (by decide) (fun h1 => ?_) (fun h1 => ?_)
  · refine z_aload rfl rfl ?_
    refine z_getR (r := 83) rfl rfl (hRr _ rm_50_58 (by decide)) ?_
    refine z_iload rfl rfl ?_
    refine z_iald (v := J 48 1) rfl rfl (by decide) (by decide) (e83) ?_
    refine z_if_lt rfl (by omega) (fun h2 => ?_) (fun h2 => ?_)
    · refine z_iload rfl rfl ?_
      refine z_pushI (z := 0) rfl rfl ?_
      refine z_aload rfl rfl ?_
      refine z_getR (r := 84) rfl rfl (hRr _ rm_50_59 (by decide)) ?_
      refine z_iload rfl rfl ?_
      refine z_iald (v := J 84 5) rfl rfl (by decide) (by decide) (rfl) ?_
      refine z_pushI (z := 1) rfl rfl ?_
      refine z_isub (e := (J 84 5) - 1) rfl rfl ?_
      refine z_callSi (As := [_, _, _]) (le := [some _, some _, some _]) rfl rfl (Nat.le_of_ble_eq_true rfl) (Nat.le_of_ble_eq_true rfl) rfl ?_
      refine z_iload rfl rfl ?_
      refine z_iload rfl rfl ?_
      refine z_icmp_lt rfl (by omega) (by decide) (fun h3 => ?_) (fun h3 => ?_)
      · refine z_pushI (z := 0) rfl rfl ?_
        refine z_bret rfl rfl (by decide) ?_
        show zW _ _ _ _ _ _ _ _ _ _
        refine z_if_eqT rfl (by decide) (by decide) ?_
        refine z_pushI (z := (-13)) rfl rfl ?_
        refine z_iret rfl rfl ?_
        show zW _ _ _ _ _ _ _ _ _ _
        refine z_if_geF rfl (by decide) (by decide) ?_
        refine z_pushL (z := (-9223372036854775808)) rfl rfl ?_
        refine z_goto rfl ?_
        refine z_lret rfl rfl ?_
        refine ⟨?_, ?_⟩
        · first | rfl | exact congrArg (fun v => some (zl v)) (by omega) | (exfalso; omega)
        · exact hr
      · refine z_iload rfl rfl ?_
        refine z_iload rfl rfl ?_
        refine z_icmp_gt rfl (by omega) (by omega) (fun h4 => ?_) (fun h4 => ?_)
        · refine z_pushI (z := 0) rfl rfl ?_
          refine z_bret rfl rfl (by decide) ?_
          show zW _ _ _ _ _ _ _ _ _ _
          refine z_if_eqT rfl (by decide) (by decide) ?_
          refine z_pushI (z := (-13)) rfl rfl ?_
          refine z_iret rfl rfl ?_
          show zW _ _ _ _ _ _ _ _ _ _
          refine z_if_geF rfl (by decide) (by decide) ?_
          refine z_pushL (z := (-9223372036854775808)) rfl rfl ?_
          refine z_goto rfl ?_
          refine z_lret rfl rfl ?_
          refine ⟨?_, ?_⟩
          · first | rfl | exact congrArg (fun v => some (zl v)) (by omega) | (exfalso; omega)
          · exact hr
        · refine z_pushI (z := 1) rfl rfl ?_
          refine z_goto rfl ?_
          refine z_bret rfl rfl (by decide) ?_
          show zW _ _ _ _ _ _ _ _ _ _
          refine z_if_eqF rfl (by decide) (by decide) ?_
          refine z_pushI (z := 0) rfl rfl ?_
          refine z_goto rfl ?_
          refine z_iret rfl rfl ?_
          show zW _ _ _ _ _ _ _ _ _ _
          refine z_if_geT rfl (by decide) (by decide) ?_
          refine z_aload rfl rfl ?_
          refine z_getR (r := 85) rfl rfl (hRr _ rm_50_60 (by decide)) ?_
          refine z_pushI (z := 60) rfl rfl ?_
          refine z_iload rfl rfl ?_
          refine z_imul (e := 300) rfl rfl ?_
          refine z_iload rfl rfl ?_
          refine z_iadd (e := 300 + i) rfl rfl ?_
          refine z_lald (v := M 85 (300 + i)) rfl rfl (by decide) (by omega) (rfl) ?_
          refine z_lret rfl rfl ?_
          refine ⟨?_, ?_⟩
          · first | rfl | exact congrArg (fun v => some (zl v)) (by omega) | (exfalso; omega)
          · exact hr
    · refine z_pushI (z := (-12)) rfl rfl ?_
      refine z_iret rfl rfl ?_
      show zW _ _ _ _ _ _ _ _ _ _
      refine z_if_geF rfl (by decide) (by decide) ?_
      refine z_pushL (z := (-9223372036854775808)) rfl rfl ?_
      refine z_goto rfl ?_
      refine z_lret rfl rfl ?_
      refine ⟨?_, ?_⟩
      · first | rfl | exact congrArg (fun v => some (zl v)) (by omega) | (exfalso; omega)
      · exact hr
  · refine z_pushI (z := (-11)) rfl rfl ?_
    refine z_iret rfl rfl ?_
    show zW _ _ _ _ _ _ _ _ _ _
    refine z_if_geF rfl (by decide) (by decide) ?_
    refine z_pushL (z := (-9223372036854775808)) rfl rfl ?_
    refine z_goto rfl ?_
    refine z_lret rfl rfl ?_
    refine ⟨?_, ?_⟩
    · first | rfl | exact congrArg (fun v => some (zl v)) (by omega) | (exfalso; omega)
    · exact hr
theorem st_put_51 {X : Nat × (Nat → Int32)} {d : Nat} {J M : zA} {R : zR} {i v : Int} (hr : Rel X J M R) (hi : -2147483648 ≤ i ∧ i < 2147483648) (hv : -9223372036854775808 ≤ v ∧ v < 9223372036854775808) (hh : J 48 0 = 1) : zW X (d + 20) 138 0 (gEn 138 [(.ref 0), (zi 5), (zi i), (zl v)]) [] J M R (stP X (d + 20) 252 [(zi 5), (zi i), (zl v)]) := by
  have hr0 := hr
  obtain ⟨hR, hG, hY, hD, hP, hC, hAc, hS, hTp, hX, hW⟩ := hr0
  have hRr : zRoR R := zRoR_of hR
  have hA0 := hAc
  obtain ⟨a1, a2, a3, a4, a5, a6⟩ := hA0
  have e83 : J 83 5 = J 48 1 := (hS 5 (by decide) (by decide)).1.symm.trans (cH_1 hh)
  have s3 : 0 ≤ J 48 2 ∧ J 48 2 ≤ 4 := (hS 5 (by decide) (by decide)).2.2.1
  have s4 : 0 ≤ J 48 3 ∧ J 48 3 ≤ 60 := (hS 5 (by decide) (by decide)).2.2.2.1
  have s5 : 0 ≤ J 48 1 ∧ J 48 1 < J 34 1 := (hS 5 (by decide) (by decide)).2.2.2.2.1 hh
  show zW _ _ _ _ [some (.ref 0), some (zi 5), some (zi i), some (zl v), none, none] _ _ _ _ _
  refine z_iload rfl rfl ?_
  refine z_callSi (As := [_]) (le := [some _]) rfl rfl (Nat.le_of_ble_eq_true rfl) (Nat.le_of_ble_eq_true rfl) rfl ?_
  refine z_iload rfl rfl ?_
  refine z_if_ltF rfl (by decide) (by decide) ?_
  refine z_iload rfl rfl ?_
  refine z_pushI (z := 6) rfl rfl ?_
  refine z_icmp_geF rfl (by decide) (by decide) (by decide) ?_
  refine z_pushI (z := 1) rfl rfl ?_
  refine z_goto rfl ?_
  refine z_bret rfl rfl (by decide) ?_
  show zW _ _ _ _ _ _ _ _ _ _
  refine z_if_neT rfl (by decide) (by decide) ?_
  refine z_aload rfl rfl ?_
  refine z_getR (r := 37) rfl rfl (hR _ rm_0_11) ?_
  refine z_iload rfl rfl ?_
  refine z_aald (r := 48) rfl rfl (by decide) (by decide) (hR _ rm_37_5) ?_
  refine z_iload rfl rfl ?_
  refine z_callVi (As := [_]) (le := [some _, some _]) rfl rfl rfl (Nat.le_of_ble_eq_true rfl) (Nat.le_of_ble_eq_true rfl) rfl ?_
  refine z_aload rfl rfl ?_
  refine z_getI (v := 1) rfl rfl (hh) ?_
  refine z_if_neT rfl (by decide) (by decide) ?_
  refine z_aload rfl rfl ?_
  refine z_getI (v := 1) rfl rfl (hh) ?_
  refine z_pushI (z := 2) rfl rfl ?_
  refine z_icmp_eqF rfl (by decide) (by decide) (by decide) ?_
  refine z_pushI (z := (-12)) rfl rfl ?_
  refine z_iret rfl rfl ?_
  show zW _ _ _ _ _ _ _ _ _ _
  refine z_istore rfl rfl ?_
  refine z_iload rfl rfl ?_
  refine z_if_geF rfl (by decide) (by decide) ?_
  refine z_iload rfl rfl ?_
  refine z_iret rfl rfl ?_
  refine ⟨_, rfl, ?_⟩
  show zW _ _ _ _ [some (.ref 50), some (zi 5), some (zi i), some (zl v), none, none, none] _ _ _ _ _
  refine z_aload rfl rfl ?_
  refine z_iload rfl rfl ?_
  refine z_iload rfl rfl ?_
  refine z_callVi (As := [_, _]) (le := [some _, some _, some _]) rfl rfl rfl (Nat.le_of_ble_eq_true rfl) (Nat.le_of_ble_eq_true rfl) rfl ?_
  refine z_iload rfl rfl ?_
  refine z_callSi (As := [_]) (le := [some _]) rfl rfl (Nat.le_of_ble_eq_true rfl) (Nat.le_of_ble_eq_true rfl) rfl ?_
  refine z_iload rfl rfl ?_
  refine z_pushI (z := 0) rfl rfl ?_
  refine z_pushI (z := 5) rfl rfl ?_
  refine z_callSi (As := [_, _, _]) (le := [some _, some _, some _]) rfl rfl (Nat.le_of_ble_eq_true rfl) (Nat.le_of_ble_eq_true rfl) rfl ?_
  refine z_iload rfl rfl ?_
  refine z_iload rfl rfl ?_
  refine z_icmp_ltF rfl (by decide) (by decide) (by decide) ?_
  refine z_iload rfl rfl ?_
  refine z_iload rfl rfl ?_
  refine z_icmp_gtF rfl (by decide) (by decide) (by decide) ?_
  refine z_pushI (z := 1) rfl rfl ?_
  refine z_goto rfl ?_
  refine z_bret rfl rfl (by decide) ?_
  show zW _ _ _ _ _ _ _ _ _ _
  refine z_bret rfl rfl (by decide) ?_
  show zW _ _ _ _ _ _ _ _ _ _
  refine z_if_neT rfl (by decide) (by decide) ?_
  refine z_aload rfl rfl ?_
  refine z_getR (r := 83) rfl rfl (hRr _ rm_50_58 (by decide)) ?_
  refine z_iload rfl rfl ?_
  refine z_iald (v := J 48 1) rfl rfl (by decide) (by decide) (e83) ?_
  refine z_pushI (z := (-1)) rfl rfl ?_
  refine z_icmp_ne rfl (by omega) (by decide) (fun h1 => ?_) (fun h1 => ?_)
  · refine z_aload rfl rfl ?_
    refine z_getR (r := 83) rfl rfl (hRr _ rm_50_58 (by decide)) ?_
    refine z_iload rfl rfl ?_
    refine z_iald (v := J 48 1) rfl rfl (by decide) (by decide) (e83) ?_
    refine z_if_lt rfl (by omega) (fun h2 => ?_) (fun h2 => ?_)
    · refine z_iload rfl rfl ?_
      refine z_pushI (z := 0) rfl rfl ?_
      refine z_aload rfl rfl ?_
      refine z_getR (r := 84) rfl rfl (hRr _ rm_50_59 (by decide)) ?_
      refine z_iload rfl rfl ?_
      refine z_iald (v := J 84 5) rfl rfl (by decide) (by decide) (rfl) ?_
      refine z_pushI (z := 1) rfl rfl ?_
      refine z_isub (e := (J 84 5) - 1) rfl rfl ?_
      refine z_callSi (As := [_, _, _]) (le := [some _, some _, some _]) rfl rfl (Nat.le_of_ble_eq_true rfl) (Nat.le_of_ble_eq_true rfl) rfl ?_
      refine z_iload rfl rfl ?_
      refine z_iload rfl rfl ?_
      refine z_icmp_lt rfl (by omega) (by decide) (fun h3 => ?_) (fun h3 => ?_)
      · refine z_pushI (z := 0) rfl rfl ?_
        refine z_bret rfl rfl (by decide) ?_
        show zW _ _ _ _ _ _ _ _ _ _
        refine z_if_eqT rfl (by decide) (by decide) ?_
        refine z_pushI (z := (-13)) rfl rfl ?_
        refine z_iret rfl rfl ?_
        show zW _ _ _ _ _ _ _ _ _ _
        refine z_istore rfl rfl ?_
        refine z_iload rfl rfl ?_
        refine z_if_geF rfl (by decide) (by decide) ?_
        refine z_iload rfl rfl ?_
        refine z_iret rfl rfl ?_
        refine ⟨?_, ?_⟩
        · first | rfl | exact congrArg (fun v => some (zi v)) (by omega) | (exfalso; omega)
        · exact hr
      · refine z_iload rfl rfl ?_
        refine z_iload rfl rfl ?_
        refine z_icmp_gt rfl (by omega) (by omega) (fun h4 => ?_) (fun h4 => ?_)
        · refine z_pushI (z := 0) rfl rfl ?_
          refine z_bret rfl rfl (by decide) ?_
          show zW _ _ _ _ _ _ _ _ _ _
          refine z_if_eqT rfl (by decide) (by decide) ?_
          refine z_pushI (z := (-13)) rfl rfl ?_
          refine z_iret rfl rfl ?_
          show zW _ _ _ _ _ _ _ _ _ _
          refine z_istore rfl rfl ?_
          refine z_iload rfl rfl ?_
          refine z_if_geF rfl (by decide) (by decide) ?_
          refine z_iload rfl rfl ?_
          refine z_iret rfl rfl ?_
          refine ⟨?_, ?_⟩
          · first | rfl | exact congrArg (fun v => some (zi v)) (by omega) | (exfalso; omega)
          · exact hr
        · refine z_pushI (z := 1) rfl rfl ?_
          refine z_goto rfl ?_
          refine z_bret rfl rfl (by decide) ?_
          show zW _ _ _ _ _ _ _ _ _ _
          refine z_if_eqF rfl (by decide) (by decide) ?_
          refine z_pushI (z := 0) rfl rfl ?_
          refine z_goto rfl ?_
          refine z_iret rfl rfl ?_
          show zW _ _ _ _ _ _ _ _ _ _
          refine z_istore rfl rfl ?_
          refine z_iload rfl rfl ?_
          refine z_if_geT rfl (by decide) (by decide) ?_
          refine z_pushI (z := (-2)) rfl rfl ?_
          refine z_aload rfl rfl ?_
          refine z_getR (r := 83) rfl rfl (hRr _ rm_50_58 (by decide)) ?_
          refine z_iload rfl rfl ?_
          refine z_iald (v := J 48 1) rfl rfl (by decide) (by decide) (e83) ?_
          refine z_isub (e := (-2) - (J 48 1)) rfl rfl ?_
          refine z_istore rfl rfl ?_
          refine z_aload rfl rfl ?_
          refine z_getR (r := 85) rfl rfl (hRr _ rm_50_60 (by decide)) ?_
          refine z_pushI (z := 60) rfl rfl ?_
          refine z_iload rfl rfl ?_
          refine z_imul (e := 300) rfl rfl ?_
          refine z_iload rfl rfl ?_
          refine z_iadd (e := 300 + i) rfl rfl ?_
          refine z_iload rfl rfl ?_
          refine z_if_ne rfl (by omega) (fun h5 => ?_) (fun h5 => ?_)
          · refine z_iload rfl rfl ?_
            refine z_pushI (z := 1) rfl rfl ?_
            refine z_icmp_ne rfl (by omega) (by decide) (fun h6 => ?_) (fun h6 => ?_)
            · refine z_iload rfl rfl ?_
              refine z_pushI (z := 2) rfl rfl ?_
              refine z_icmp_ne rfl (by omega) (by decide) (fun h7 => ?_) (fun h7 => ?_)
              · refine z_iload rfl rfl ?_
                refine z_pushI (z := 3) rfl rfl ?_
                refine z_icmp_ne rfl (by omega) (by decide) (fun h8 => ?_) (fun h8 => ?_)
                · refine z_lload rfl rfl ?_
                  refine z_pushL (z := 0) rfl rfl ?_
                  refine z_lcmp_eq rfl rfl (by omega) (by omega) (fun h9 => ?_) (fun h9 => ?_)
                  · refine z_pushL (z := 0) rfl rfl ?_
                    refine z_last (e := 0) rfl rfl (by decide) (by omega) rfl ?_
                    refine z_pushI (z := 1) rfl rfl ?_
                    refine z_iret rfl rfl ?_
                    refine ⟨?_, ?_⟩
                    · first | rfl | exact congrArg (fun v => some (zi v)) (by omega) | (exfalso; omega)
                    · exfalso
                      omega
                  · refine z_pushL (z := 1) rfl rfl ?_
                    refine z_goto rfl ?_
                    refine z_last (e := 1) rfl rfl (by decide) (by omega) rfl ?_
                    refine z_pushI (z := 1) rfl rfl ?_
                    refine z_iret rfl rfl ?_
                    refine ⟨?_, ?_⟩
                    · first | rfl | exact congrArg (fun v => some (zi v)) (by omega) | (exfalso; omega)
                    · exfalso
                      omega
                · refine z_lload rfl rfl ?_
                  refine z_goto rfl ?_
                  refine z_last (e := v) rfl rfl (by decide) (by omega) rfl ?_
                  refine z_pushI (z := 1) rfl rfl ?_
                  refine z_iret rfl rfl ?_
                  refine ⟨?_, ?_⟩
                  · first | rfl | exact congrArg (fun v => some (zi v)) (by omega) | (exfalso; omega)
                  · exfalso
                    omega
              · refine z_lload rfl rfl ?_
                refine z_l2i rfl ?_
                refine z_topn (e := zn v) rfl ?_
                have q10 := zn_r v
                refine z_i2l rfl (by omega) ?_
                refine z_goto rfl ?_
                refine z_last (e := zn v) rfl rfl (by decide) (by omega) rfl ?_
                refine z_pushI (z := 1) rfl rfl ?_
                refine z_iret rfl rfl ?_
                refine ⟨?_, ?_⟩
                · first | rfl | exact congrArg (fun v => some (zi v)) (by omega) | (exfalso; omega)
                · exfalso
                  omega
            · refine z_lload rfl rfl ?_
              refine z_l2i rfl ?_
              refine z_i2s (e := zh v) rfl rfl ?_
              have q11 := zh_r v
              refine z_i2l rfl (by omega) ?_
              refine z_goto rfl ?_
              refine z_last (e := zh v) rfl rfl (by decide) (by omega) rfl ?_
              refine z_pushI (z := 1) rfl rfl ?_
              refine z_iret rfl rfl ?_
              refine ⟨?_, ?_⟩
              · first | rfl | exact congrArg (fun v => some (zi v)) (by omega) | (exfalso; omega)
              · exfalso
                omega
          · refine z_lload rfl rfl ?_
            refine z_l2i rfl ?_
            refine z_i2b (e := zb v) rfl rfl ?_
            have q12 := zb_r v
            refine z_i2l rfl (by omega) ?_
            refine z_goto rfl ?_
            refine z_last (e := zb v) rfl rfl (by decide) (by omega) rfl ?_
            refine z_pushI (z := 1) rfl rfl ?_
            refine z_iret rfl rfl ?_
            refine ⟨?_, ?_⟩
            · first | rfl | exact congrArg (fun v => some (zi v)) (by omega) | (exfalso; omega)
            · exfalso
              omega
    · refine z_pushI (z := (-12)) rfl rfl ?_
      refine z_iret rfl rfl ?_
      show zW _ _ _ _ _ _ _ _ _ _
      refine z_istore rfl rfl ?_
      refine z_iload rfl rfl ?_
      refine z_if_geF rfl (by decide) (by decide) ?_
      refine z_iload rfl rfl ?_
      refine z_iret rfl rfl ?_
      refine ⟨?_, ?_⟩
      · first | rfl | exact congrArg (fun v => some (zi v)) (by omega) | (exfalso; omega)
      · exact hr
  · refine z_pushI (z := (-11)) rfl rfl ?_
    refine z_iret rfl rfl ?_
    show zW _ _ _ _ _ _ _ _ _ _
    refine z_istore rfl rfl ?_
    refine z_iload rfl rfl ?_
    refine z_if_geF rfl (by decide) (by decide) ?_
    refine z_iload rfl rfl ?_
    refine z_iret rfl rfl ?_
    refine ⟨?_, ?_⟩
    · first | rfl | exact congrArg (fun v => some (zi v)) (by omega) | (exfalso; omega)
    · exact hr
theorem st_element_52 {X : Nat × (Nat → Int32)} {d : Nat} {J M : zA} {R : zR} {i : Int} (hr : Rel X J M R) (hi : -2147483648 ≤ i ∧ i < 2147483648) (hh : J 48 0 = 2) : zW X (d + 20) 139 0 (gEn 139 [(.ref 0), (zi 5), (zi i)]) [] J M R (stL X (d + 20) 253 [(zi 5), (zi i)]) := by
  have hr0 := hr
  obtain ⟨hR, hG, hY, hD, hP, hC, hAc, hS, hTp, hX, hW⟩ := hr0
  have hRr : zRoR R := zRoR_of hR
  have hA0 := hAc
  obtain ⟨a1, a2, a3, a4, a5, a6⟩ := hA0
  have e83 : J 83 5 = -2 - J 48 2 := (hS 5 (by decide) (by decide)).1.symm.trans (cH_2 hh)
  have s3 : 0 ≤ J 48 2 ∧ J 48 2 ≤ 4 := (hS 5 (by decide) (by decide)).2.2.1
  have s4 : 0 ≤ J 48 3 ∧ J 48 3 ≤ 60 := (hS 5 (by decide) (by decide)).2.2.2.1
  have s6 := (hS 5 (by decide) (by decide)).2.2.2.2.2 hh
  have s7 : J 84 5 = J 48 3 := s6.1.symm
  have s8 : ∀ i, 0 ≤ i → i < J 48 3 → M 49 i = M 85 (300 + i) := s6.2.1
  show zW _ _ _ _ [some (.ref 0), some (zi 5), some (zi i)] _ _ _ _ _
  refine z_iload rfl rfl ?_
  refine z_callSi (As := [_]) (le := [some _]) rfl rfl (Nat.le_of_ble_eq_true rfl) (Nat.le_of_ble_eq_true rfl) rfl ?_
  refine z_iload rfl rfl ?_
  refine z_if_ltF rfl (by decide) (by decide) ?_
  refine z_iload rfl rfl ?_
  refine z_pushI (z := 6) rfl rfl ?_
  refine z_icmp_geF rfl (by decide) (by decide) (by decide) ?_
  refine z_pushI (z := 1) rfl rfl ?_
  refine z_goto rfl ?_
  refine z_bret rfl rfl (by decide) ?_
  show zW _ _ _ _ _ _ _ _ _ _
  refine z_if_eqF rfl (by decide) (by decide) ?_
  refine z_aload rfl rfl ?_
  refine z_getR (r := 37) rfl rfl (hR _ rm_0_11) ?_
  refine z_iload rfl rfl ?_
  refine z_aald (r := 48) rfl rfl (by decide) (by decide) (hR _ rm_37_5) ?_
  refine z_iload rfl rfl ?_
  refine z_callVi (As := [_]) (le := [some _, some _]) rfl rfl rfl (Nat.le_of_ble_eq_true rfl) (Nat.le_of_ble_eq_true rfl) rfl ?_
  refine z_aload rfl rfl ?_
  refine z_getI (v := 2) rfl rfl (hh) ?_
  refine z_if_neT rfl (by decide) (by decide) ?_
  refine z_aload rfl rfl ?_
  refine z_getI (v := 2) rfl rfl (hh) ?_
  refine z_pushI (z := 2) rfl rfl ?_
  refine z_icmp_eqT rfl (by decide) (by decide) (by decide) ?_
  refine z_iload rfl rfl ?_
  refine z_if_lt rfl (by omega) (fun h1 => ?_) (fun h1 => ?_)
  · refine z_pushI (z := (-13)) rfl rfl ?_
    refine z_iret rfl rfl ?_
    show zW _ _ _ _ _ _ _ _ _ _
    refine z_if_geF rfl (by decide) (by decide) ?_
    refine z_pushL (z := (-9223372036854775808)) rfl rfl ?_
    refine z_lret rfl rfl ?_
    refine ⟨_, rfl, ?_⟩
    show zW _ _ _ _ [some (.ref 50), some (zi 5), some (zi i)] _ _ _ _ _
    refine z_aload rfl rfl ?_
    refine z_iload rfl rfl ?_
    refine z_iload rfl rfl ?_
    refine z_callVi (As := [_, _]) (le := [some _, some _, some _]) rfl rfl rfl (Nat.le_of_ble_eq_true rfl) (Nat.le_of_ble_eq_true rfl) rfl ?_
    refine z_iload rfl rfl ?_
    refine z_callSi (As := [_]) (le := [some _]) rfl rfl (Nat.le_of_ble_eq_true rfl) (Nat.le_of_ble_eq_true rfl) rfl ?_
    refine z_iload rfl rfl ?_
    refine z_pushI (z := 0) rfl rfl ?_
    refine z_pushI (z := 5) rfl rfl ?_
    refine z_callSi (As := [_, _, _]) (le := [some _, some _, some _]) rfl rfl (Nat.le_of_ble_eq_true rfl) (Nat.le_of_ble_eq_true rfl) rfl ?_
    refine z_iload rfl rfl ?_
    refine z_iload rfl rfl ?_
    refine z_icmp_ltF rfl (by decide) (by decide) (by decide) ?_
    refine z_iload rfl rfl ?_
    refine z_iload rfl rfl ?_
    refine z_icmp_gtF rfl (by decide) (by decide) (by decide) ?_
    refine z_pushI (z := 1) rfl rfl ?_
    refine z_goto rfl ?_
    refine z_bret rfl rfl (by decide) ?_
    show zW _ _ _ _ _ _ _ _ _ _
    refine z_bret rfl rfl (by decide) ?_
    show zW _ _ _ _ _ _ _ _ _ _
    refine z_if_neT rfl (by decide) (by decide) ?_
    refine z_aload rfl rfl ?_
    refine z_getR (r := 83) rfl rfl (hRr _ rm_50_58 (by decide)) ?_
    refine z_iload rfl rfl ?_
    refine z_iald (v := (-2) - (J 48 2)) rfl rfl (by decide) (by decide) (e83) ?_
    refine z_pushI (z := (-1)) rfl rfl ?_
    refine z_icmp_ne rfl (by omega) (by decide) (fun h2 => ?_) (fun h2 => ?_)
    · refine z_aload rfl rfl ?_
      refine z_getR (r := 83) rfl rfl (hRr _ rm_50_58 (by decide)) ?_
      refine z_iload rfl rfl ?_
      refine z_iald (v := (-2) - (J 48 2)) rfl rfl (by decide) (by decide) (e83) ?_
      refine z_if_lt rfl (by omega) (fun h3 => ?_) (fun h3 => ?_)
      · refine z_iload rfl rfl ?_
        refine z_pushI (z := 0) rfl rfl ?_
        refine z_aload rfl rfl ?_
        refine z_getR (r := 84) rfl rfl (hRr _ rm_50_59 (by decide)) ?_
        refine z_iload rfl rfl ?_
        refine z_iald (v := J 48 3) rfl rfl (by decide) (by decide) (s7) ?_
        refine z_pushI (z := 1) rfl rfl ?_
        refine z_isub (e := (J 48 3) - 1) rfl rfl ?_
        refine z_callSi (As := [_, _, _]) (le := [some _, some _, some _]) rfl rfl (Nat.le_of_ble_eq_true rfl) (Nat.le_of_ble_eq_true rfl) rfl ?_
        refine z_iload rfl rfl ?_
        refine z_iload rfl rfl ?_
        refine z_icmp_ltT rfl (by omega) (by decide) (by omega) ?_
        refine z_pushI (z := 0) rfl rfl ?_
        refine z_bret rfl rfl (by decide) ?_
        show zW _ _ _ _ _ _ _ _ _ _
        refine z_if_eqT rfl (by decide) (by decide) ?_
        refine z_pushI (z := (-13)) rfl rfl ?_
        refine z_iret rfl rfl ?_
        show zW _ _ _ _ _ _ _ _ _ _
        refine z_if_geF rfl (by decide) (by decide) ?_
        refine z_pushL (z := (-9223372036854775808)) rfl rfl ?_
        refine z_goto rfl ?_
        refine z_lret rfl rfl ?_
        refine ⟨?_, ?_⟩
        · first | rfl | exact congrArg (fun v => some (zl v)) (by omega) | (exfalso; omega)
        · exact hr
      · refine z_pushI (z := (-12)) rfl rfl ?_
        refine z_iret rfl rfl ?_
        show zW _ _ _ _ _ _ _ _ _ _
        refine z_if_geF rfl (by decide) (by decide) ?_
        refine z_pushL (z := (-9223372036854775808)) rfl rfl ?_
        refine z_goto rfl ?_
        refine z_lret rfl rfl ?_
        refine ⟨?_, ?_⟩
        · first | rfl | exact congrArg (fun v => some (zl v)) (by omega) | (exfalso; omega)
        · exact hr
    · refine z_pushI (z := (-11)) rfl rfl ?_
      refine z_iret rfl rfl ?_
      show zW _ _ _ _ _ _ _ _ _ _
      refine z_if_geF rfl (by decide) (by decide) ?_
      refine z_pushL (z := (-9223372036854775808)) rfl rfl ?_
      refine z_goto rfl ?_
      refine z_lret rfl rfl ?_
      refine ⟨?_, ?_⟩
      · first | rfl | exact congrArg (fun v => some (zl v)) (by omega) | (exfalso; omega)
      · exact hr
  · refine z_iload rfl rfl ?_
    refine z_aload rfl rfl ?_
    refine z_getI (v := J 48 3) rfl rfl (rfl) ?_
    refine z_icmp_ge rfl (by omega) (by omega) (fun h2 => ?_) (fun h2 => ?_)
    · refine z_pushI (z := (-13)) rfl rfl ?_
      refine z_iret rfl rfl ?_
      show zW _ _ _ _ _ _ _ _ _ _
      refine z_if_geF rfl (by decide) (by decide) ?_
      refine z_pushL (z := (-9223372036854775808)) rfl rfl ?_
      refine z_lret rfl rfl ?_
      refine ⟨_, rfl, ?_⟩
      show zW _ _ _ _ [some (.ref 50), some (zi 5), some (zi i)] _ _ _ _ _
      refine z_aload rfl rfl ?_
      refine z_iload rfl rfl ?_
      refine z_iload rfl rfl ?_
      refine z_callVi (As := [_, _]) (le := [some _, some _, some _]) rfl rfl rfl (Nat.le_of_ble_eq_true rfl) (Nat.le_of_ble_eq_true rfl) rfl ?_
      refine z_iload rfl rfl ?_
      refine z_callSi (As := [_]) (le := [some _]) rfl rfl (Nat.le_of_ble_eq_true rfl) (Nat.le_of_ble_eq_true rfl) rfl ?_
      refine z_iload rfl rfl ?_
      refine z_pushI (z := 0) rfl rfl ?_
      refine z_pushI (z := 5) rfl rfl ?_
      refine z_callSi (As := [_, _, _]) (le := [some _, some _, some _]) rfl rfl (Nat.le_of_ble_eq_true rfl) (Nat.le_of_ble_eq_true rfl) rfl ?_
      refine z_iload rfl rfl ?_
      refine z_iload rfl rfl ?_
      refine z_icmp_ltF rfl (by decide) (by decide) (by decide) ?_
      refine z_iload rfl rfl ?_
      refine z_iload rfl rfl ?_
      refine z_icmp_gtF rfl (by decide) (by decide) (by decide) ?_
      refine z_pushI (z := 1) rfl rfl ?_
      refine z_goto rfl ?_
      refine z_bret rfl rfl (by decide) ?_
      show zW _ _ _ _ _ _ _ _ _ _
      refine z_bret rfl rfl (by decide) ?_
      show zW _ _ _ _ _ _ _ _ _ _
      refine z_if_neT rfl (by decide) (by decide) ?_
      refine z_aload rfl rfl ?_
      refine z_getR (r := 83) rfl rfl (hRr _ rm_50_58 (by decide)) ?_
      refine z_iload rfl rfl ?_
      refine z_iald (v := (-2) - (J 48 2)) rfl rfl (by decide) (by decide) (e83) ?_
      refine z_pushI (z := (-1)) rfl rfl ?_
      refine z_icmp_ne rfl (by omega) (by decide) (fun h3 => ?_) (fun h3 => ?_)
      · refine z_aload rfl rfl ?_
        refine z_getR (r := 83) rfl rfl (hRr _ rm_50_58 (by decide)) ?_
        refine z_iload rfl rfl ?_
        refine z_iald (v := (-2) - (J 48 2)) rfl rfl (by decide) (by decide) (e83) ?_
        refine z_if_lt rfl (by omega) (fun h4 => ?_) (fun h4 => ?_)
        · refine z_iload rfl rfl ?_
          refine z_pushI (z := 0) rfl rfl ?_
          refine z_aload rfl rfl ?_
          refine z_getR (r := 84) rfl rfl (hRr _ rm_50_59 (by decide)) ?_
          refine z_iload rfl rfl ?_
          refine z_iald (v := J 48 3) rfl rfl (by decide) (by decide) (s7) ?_
          refine z_pushI (z := 1) rfl rfl ?_
          refine z_isub (e := (J 48 3) - 1) rfl rfl ?_
          refine z_callSi (As := [_, _, _]) (le := [some _, some _, some _]) rfl rfl (Nat.le_of_ble_eq_true rfl) (Nat.le_of_ble_eq_true rfl) rfl ?_
          refine z_iload rfl rfl ?_
          refine z_iload rfl rfl ?_
          refine z_icmp_ltF rfl (by omega) (by decide) (by omega) ?_
          refine z_iload rfl rfl ?_
          refine z_iload rfl rfl ?_
          refine z_icmp_gtT rfl (by omega) (by omega) (by omega) ?_
          refine z_pushI (z := 0) rfl rfl ?_
          refine z_bret rfl rfl (by decide) ?_
          show zW _ _ _ _ _ _ _ _ _ _
          refine z_if_eqT rfl (by decide) (by decide) ?_
          refine z_pushI (z := (-13)) rfl rfl ?_
          refine z_iret rfl rfl ?_
          show zW _ _ _ _ _ _ _ _ _ _
          refine z_if_geF rfl (by decide) (by decide) ?_
          refine z_pushL (z := (-9223372036854775808)) rfl rfl ?_
          refine z_goto rfl ?_
          refine z_lret rfl rfl ?_
          refine ⟨?_, ?_⟩
          · first | rfl | exact congrArg (fun v => some (zl v)) (by omega) | (exfalso; omega)
          · exact hr
        · refine z_pushI (z := (-12)) rfl rfl ?_
          refine z_iret rfl rfl ?_
          show zW _ _ _ _ _ _ _ _ _ _
          refine z_if_geF rfl (by decide) (by decide) ?_
          refine z_pushL (z := (-9223372036854775808)) rfl rfl ?_
          refine z_goto rfl ?_
          refine z_lret rfl rfl ?_
          refine ⟨?_, ?_⟩
          · first | rfl | exact congrArg (fun v => some (zl v)) (by omega) | (exfalso; omega)
          · exact hr
      · refine z_pushI (z := (-11)) rfl rfl ?_
        refine z_iret rfl rfl ?_
        show zW _ _ _ _ _ _ _ _ _ _
        refine z_if_geF rfl (by decide) (by decide) ?_
        refine z_pushL (z := (-9223372036854775808)) rfl rfl ?_
        refine z_goto rfl ?_
        refine z_lret rfl rfl ?_
        refine ⟨?_, ?_⟩
        · first | rfl | exact congrArg (fun v => some (zl v)) (by omega) | (exfalso; omega)
        · exact hr
    · refine z_pushI (z := 0) rfl rfl ?_
      refine z_goto rfl ?_
      refine z_iret rfl rfl ?_
      show zW _ _ _ _ _ _ _ _ _ _
      refine z_if_geT rfl (by decide) (by decide) ?_
      refine z_aload rfl rfl ?_
      refine z_getR (r := 37) rfl rfl (hR _ rm_0_11) ?_
      refine z_iload rfl rfl ?_
      refine z_aald (r := 48) rfl rfl (by decide) (by decide) (hR _ rm_37_5) ?_
      refine z_iload rfl rfl ?_
      refine z_callVi (As := [_]) (le := [some _, some _]) rfl rfl rfl (Nat.le_of_ble_eq_true rfl) (Nat.le_of_ble_eq_true rfl) rfl ?_
      refine z_iload rfl rfl ?_
      refine z_if_ltF rfl (by omega) (by omega) ?_
      refine z_iload rfl rfl ?_
      refine z_aload rfl rfl ?_
      refine z_getI (v := J 48 3) rfl rfl (rfl) ?_
      refine z_icmp_geF rfl (by omega) (by omega) (by omega) ?_
      refine z_aload rfl rfl ?_
      refine z_getR (r := 49) rfl rfl (hR _ rm_48_4) ?_
      refine z_iload rfl rfl ?_
      refine z_lald (v := M 49 i) rfl rfl (by decide) (by omega) (rfl) ?_
      refine z_goto rfl ?_
      refine z_lret rfl rfl ?_
      show zW _ _ _ _ _ _ _ _ _ _
      refine z_lret rfl rfl ?_
      refine ⟨_, rfl, ?_⟩
      show zW _ _ _ _ [some (.ref 50), some (zi 5), some (zi i)] _ _ _ _ _
      refine z_aload rfl rfl ?_
      refine z_iload rfl rfl ?_
      refine z_iload rfl rfl ?_
      refine z_callVi (As := [_, _]) (le := [some _, some _, some _]) rfl rfl rfl (Nat.le_of_ble_eq_true rfl) (Nat.le_of_ble_eq_true rfl) rfl ?_
      refine z_iload rfl rfl ?_
      refine z_callSi (As := [_]) (le := [some _]) rfl rfl (Nat.le_of_ble_eq_true rfl) (Nat.le_of_ble_eq_true rfl) rfl ?_
      refine z_iload rfl rfl ?_
      refine z_pushI (z := 0) rfl rfl ?_
      refine z_pushI (z := 5) rfl rfl ?_
      refine z_callSi (As := [_, _, _]) (le := [some _, some _, some _]) rfl rfl (Nat.le_of_ble_eq_true rfl) (Nat.le_of_ble_eq_true rfl) rfl ?_
      refine z_iload rfl rfl ?_
      refine z_iload rfl rfl ?_
      refine z_icmp_ltF rfl (by decide) (by decide) (by decide) ?_
      refine z_iload rfl rfl ?_
      refine z_iload rfl rfl ?_
      refine z_icmp_gtF rfl (by decide) (by decide) (by decide) ?_
      refine z_pushI (z := 1) rfl rfl ?_
      refine z_goto rfl ?_
      refine z_bret rfl rfl (by decide) ?_
      show zW _ _ _ _ _ _ _ _ _ _
      refine z_bret rfl rfl (by decide) ?_
      show zW _ _ _ _ _ _ _ _ _ _
      refine z_if_neT rfl (by decide) (by decide) ?_
      refine z_aload rfl rfl ?_
      refine z_getR (r := 83) rfl rfl (hRr _ rm_50_58 (by decide)) ?_
      refine z_iload rfl rfl ?_
      refine z_iald (v := (-2) - (J 48 2)) rfl rfl (by decide) (by decide) (e83) ?_
      refine z_pushI (z := (-1)) rfl rfl ?_
      refine z_icmp_ne rfl (by omega) (by decide) (fun h3 => ?_) (fun h3 => ?_)
      · refine z_aload rfl rfl ?_
        refine z_getR (r := 83) rfl rfl (hRr _ rm_50_58 (by decide)) ?_
        refine z_iload rfl rfl ?_
        refine z_iald (v := (-2) - (J 48 2)) rfl rfl (by decide) (by decide) (e83) ?_
        refine z_if_lt rfl (by omega) (fun h4 => ?_) (fun h4 => ?_)
        · refine z_iload rfl rfl ?_
          refine z_pushI (z := 0) rfl rfl ?_
          refine z_aload rfl rfl ?_
          refine z_getR (r := 84) rfl rfl (hRr _ rm_50_59 (by decide)) ?_
          refine z_iload rfl rfl ?_
          refine z_iald (v := J 48 3) rfl rfl (by decide) (by decide) (s7) ?_
          refine z_pushI (z := 1) rfl rfl ?_
          refine z_isub (e := (J 48 3) - 1) rfl rfl ?_
          refine z_callSi (As := [_, _, _]) (le := [some _, some _, some _]) rfl rfl (Nat.le_of_ble_eq_true rfl) (Nat.le_of_ble_eq_true rfl) rfl ?_
          refine z_iload rfl rfl ?_
          refine z_iload rfl rfl ?_
          refine z_icmp_ltF rfl (by omega) (by decide) (by omega) ?_
          refine z_iload rfl rfl ?_
          refine z_iload rfl rfl ?_
          refine z_icmp_gtF rfl (by omega) (by omega) (by omega) ?_
          refine z_pushI (z := 1) rfl rfl ?_
          refine z_goto rfl ?_
          refine z_bret rfl rfl (by decide) ?_
          show zW _ _ _ _ _ _ _ _ _ _
          refine z_if_eqF rfl (by decide) (by decide) ?_
          refine z_pushI (z := 0) rfl rfl ?_
          refine z_goto rfl ?_
          refine z_iret rfl rfl ?_
          show zW _ _ _ _ _ _ _ _ _ _
          refine z_if_geT rfl (by decide) (by decide) ?_
          refine z_aload rfl rfl ?_
          refine z_getR (r := 85) rfl rfl (hRr _ rm_50_60 (by decide)) ?_
          refine z_pushI (z := 60) rfl rfl ?_
          refine z_iload rfl rfl ?_
          refine z_imul (e := 300) rfl rfl ?_
          refine z_iload rfl rfl ?_
          refine z_iadd (e := 300 + i) rfl rfl ?_
          refine z_lald (v := M 85 (300 + i)) rfl rfl (by decide) (by omega) (rfl) ?_
          refine z_lret rfl rfl ?_
          refine ⟨?_, ?_⟩
          · first | exact congrArg (fun v => some (zl v)) (s8 i (by omega) (by omega)).symm | (exfalso; omega)
          · exact hr
        · refine z_pushI (z := (-12)) rfl rfl ?_
          refine z_iret rfl rfl ?_
          show zW _ _ _ _ _ _ _ _ _ _
          refine z_if_geF rfl (by decide) (by decide) ?_
          refine z_pushL (z := (-9223372036854775808)) rfl rfl ?_
          refine z_goto rfl ?_
          refine z_lret rfl rfl ?_
          refine ⟨?_, ?_⟩
          · first | exact congrArg (fun v => some (zl v)) (s8 i (by omega) (by omega)).symm | (exfalso; omega)
          · exact hr
      · refine z_pushI (z := (-11)) rfl rfl ?_
        refine z_iret rfl rfl ?_
        show zW _ _ _ _ _ _ _ _ _ _
        refine z_if_geF rfl (by decide) (by decide) ?_
        refine z_pushL (z := (-9223372036854775808)) rfl rfl ?_
        refine z_goto rfl ?_
        refine z_lret rfl rfl ?_
        refine ⟨?_, ?_⟩
        · first | exact congrArg (fun v => some (zl v)) (s8 i (by omega) (by omega)).symm | (exfalso; omega)
        · exact hr
theorem st_put_520 {X : Nat × (Nat → Int32)} {d : Nat} {J M : zA} {R : zR} {i v : Int} (hr : Rel X J M R) (hi : -2147483648 ≤ i ∧ i < 2147483648) (hv : -9223372036854775808 ≤ v ∧ v < 9223372036854775808) (hh : J 48 0 = 2) (hso : J 48 2 = 0) : zW X (d + 20) 138 0 (gEn 138 [(.ref 0), (zi 5), (zi i), (zl v)]) [] J M R (stP X (d + 20) 252 [(zi 5), (zi i), (zl v)]) := by
  have hr0 := hr
  obtain ⟨hR, hG, hY, hD, hP, hC, hAc, hS, hTp, hX, hW⟩ := hr0
  have hRr : zRoR R := zRoR_of hR
  have e83 : J 83 5 = -2 - J 48 2 := (hS 5 (by decide) (by decide)).1.symm.trans (cH_2 hh)
  have s3 : 0 ≤ J 48 2 ∧ J 48 2 ≤ 4 := (hS 5 (by decide) (by decide)).2.2.1
  have s4 : 0 ≤ J 48 3 ∧ J 48 3 ≤ 60 := (hS 5 (by decide) (by decide)).2.2.2.1
  have s6 := (hS 5 (by decide) (by decide)).2.2.2.2.2 hh
  have s7 : J 84 5 = J 48 3 := s6.1.symm
  have s8 : ∀ i, 0 ≤ i → i < J 48 3 → M 49 i = M 85 (300 + i) := s6.2.1
  show zW _ _ _ _ [some (.ref 0), some (zi 5), some (zi i), some (zl v), none, none] _ _ _ _ _
  refine z_iload rfl rfl ?_
  refine z_callSi (As := [_]) (le := [some _]) rfl rfl (Nat.le_of_ble_eq_true rfl) (Nat.le_of_ble_eq_true rfl) rfl ?_
  refine z_iload rfl rfl ?_
  refine z_if_ltF rfl (by decide) (by decide) ?_
  refine z_iload rfl rfl ?_
  refine z_pushI (z := 6) rfl rfl ?_
  refine z_icmp_geF rfl (by decide) (by decide) (by decide) ?_
  refine z_pushI (z := 1) rfl rfl ?_
  refine z_goto rfl ?_
  refine z_bret rfl rfl (by decide) ?_
  show zW _ _ _ _ _ _ _ _ _ _
  refine z_if_neT rfl (by decide) (by decide) ?_
  refine z_aload rfl rfl ?_
  refine z_getR (r := 37) rfl rfl (hR _ rm_0_11) ?_
  refine z_iload rfl rfl ?_
  refine z_aald (r := 48) rfl rfl (by decide) (by decide) (hR _ rm_37_5) ?_
  refine z_iload rfl rfl ?_
  refine z_callVi (As := [_]) (le := [some _, some _]) rfl rfl rfl (Nat.le_of_ble_eq_true rfl) (Nat.le_of_ble_eq_true rfl) rfl ?_
  refine z_aload rfl rfl ?_
  refine z_getI (v := 2) rfl rfl (hh) ?_
  refine z_if_neT rfl (by decide) (by decide) ?_
  refine z_aload rfl rfl ?_
  refine z_getI (v := 2) rfl rfl (hh) ?_
  refine z_pushI (z := 2) rfl rfl ?_
  refine z_icmp_eqT rfl (by decide) (by decide) (by decide) ?_
  refine z_iload rfl rfl ?_
  refine z_if_lt rfl (by omega) (fun h1 => ?_) (fun h1 => ?_)
  · refine z_pushI (z := (-13)) rfl rfl ?_
    refine z_iret rfl rfl ?_
    show zW _ _ _ _ _ _ _ _ _ _
    refine z_istore rfl rfl ?_
    refine z_iload rfl rfl ?_
    refine z_if_geF rfl (by decide) (by decide) ?_
    refine z_iload rfl rfl ?_
    refine z_iret rfl rfl ?_
    refine ⟨_, rfl, ?_⟩
    show zW _ _ _ _ [some (.ref 50), some (zi 5), some (zi i), some (zl v), none, none, none] _ _ _ _ _
    refine z_aload rfl rfl ?_
    refine z_iload rfl rfl ?_
    refine z_iload rfl rfl ?_
    refine z_callVi (As := [_, _]) (le := [some _, some _, some _]) rfl rfl rfl (Nat.le_of_ble_eq_true rfl) (Nat.le_of_ble_eq_true rfl) rfl ?_
    refine z_iload rfl rfl ?_
    refine z_callSi (As := [_]) (le := [some _]) rfl rfl (Nat.le_of_ble_eq_true rfl) (Nat.le_of_ble_eq_true rfl) rfl ?_
    refine z_iload rfl rfl ?_
    refine z_pushI (z := 0) rfl rfl ?_
    refine z_pushI (z := 5) rfl rfl ?_
    refine z_callSi (As := [_, _, _]) (le := [some _, some _, some _]) rfl rfl (Nat.le_of_ble_eq_true rfl) (Nat.le_of_ble_eq_true rfl) rfl ?_
    refine z_iload rfl rfl ?_
    refine z_iload rfl rfl ?_
    refine z_icmp_ltF rfl (by decide) (by decide) (by decide) ?_
    refine z_iload rfl rfl ?_
    refine z_iload rfl rfl ?_
    refine z_icmp_gtF rfl (by decide) (by decide) (by decide) ?_
    refine z_pushI (z := 1) rfl rfl ?_
    refine z_goto rfl ?_
    refine z_bret rfl rfl (by decide) ?_
    show zW _ _ _ _ _ _ _ _ _ _
    refine z_bret rfl rfl (by decide) ?_
    show zW _ _ _ _ _ _ _ _ _ _
    refine z_if_neT rfl (by decide) (by decide) ?_
    refine z_aload rfl rfl ?_
    refine z_getR (r := 83) rfl rfl (hRr _ rm_50_58 (by decide)) ?_
    refine z_iload rfl rfl ?_
    refine z_iald (v := (-2)) rfl rfl (by decide) (by decide) ((e83.trans (by rw [hso]; rfl))) ?_
    refine z_pushI (z := (-1)) rfl rfl ?_
    refine z_icmp_neT rfl (by decide) (by decide) (by decide) ?_
    refine z_aload rfl rfl ?_
    refine z_getR (r := 83) rfl rfl (hRr _ rm_50_58 (by decide)) ?_
    refine z_iload rfl rfl ?_
    refine z_iald (v := (-2)) rfl rfl (by decide) (by decide) ((e83.trans (by rw [hso]; rfl))) ?_
    refine z_if_ltT rfl (by decide) (by decide) ?_
    refine z_iload rfl rfl ?_
    refine z_pushI (z := 0) rfl rfl ?_
    refine z_aload rfl rfl ?_
    refine z_getR (r := 84) rfl rfl (hRr _ rm_50_59 (by decide)) ?_
    refine z_iload rfl rfl ?_
    refine z_iald (v := J 48 3) rfl rfl (by decide) (by decide) (s7) ?_
    refine z_pushI (z := 1) rfl rfl ?_
    refine z_isub (e := (J 48 3) - 1) rfl rfl ?_
    refine z_callSi (As := [_, _, _]) (le := [some _, some _, some _]) rfl rfl (Nat.le_of_ble_eq_true rfl) (Nat.le_of_ble_eq_true rfl) rfl ?_
    refine z_iload rfl rfl ?_
    refine z_iload rfl rfl ?_
    refine z_icmp_ltT rfl (by omega) (by decide) (by omega) ?_
    refine z_pushI (z := 0) rfl rfl ?_
    refine z_bret rfl rfl (by decide) ?_
    show zW _ _ _ _ _ _ _ _ _ _
    refine z_if_eqT rfl (by decide) (by decide) ?_
    refine z_pushI (z := (-13)) rfl rfl ?_
    refine z_iret rfl rfl ?_
    show zW _ _ _ _ _ _ _ _ _ _
    refine z_istore rfl rfl ?_
    refine z_iload rfl rfl ?_
    refine z_if_geF rfl (by decide) (by decide) ?_
    refine z_iload rfl rfl ?_
    refine z_iret rfl rfl ?_
    refine ⟨?_, ?_⟩
    · first | rfl | exact congrArg (fun v => some (zi v)) (by omega) | (exfalso; omega)
    · exact hr
  · refine z_iload rfl rfl ?_
    refine z_aload rfl rfl ?_
    refine z_getI (v := J 48 3) rfl rfl (rfl) ?_
    refine z_icmp_ge rfl (by omega) (by omega) (fun h2 => ?_) (fun h2 => ?_)
    · refine z_pushI (z := (-13)) rfl rfl ?_
      refine z_iret rfl rfl ?_
      show zW _ _ _ _ _ _ _ _ _ _
      refine z_istore rfl rfl ?_
      refine z_iload rfl rfl ?_
      refine z_if_geF rfl (by decide) (by decide) ?_
      refine z_iload rfl rfl ?_
      refine z_iret rfl rfl ?_
      refine ⟨_, rfl, ?_⟩
      show zW _ _ _ _ [some (.ref 50), some (zi 5), some (zi i), some (zl v), none, none, none] _ _ _ _ _
      refine z_aload rfl rfl ?_
      refine z_iload rfl rfl ?_
      refine z_iload rfl rfl ?_
      refine z_callVi (As := [_, _]) (le := [some _, some _, some _]) rfl rfl rfl (Nat.le_of_ble_eq_true rfl) (Nat.le_of_ble_eq_true rfl) rfl ?_
      refine z_iload rfl rfl ?_
      refine z_callSi (As := [_]) (le := [some _]) rfl rfl (Nat.le_of_ble_eq_true rfl) (Nat.le_of_ble_eq_true rfl) rfl ?_
      refine z_iload rfl rfl ?_
      refine z_pushI (z := 0) rfl rfl ?_
      refine z_pushI (z := 5) rfl rfl ?_
      refine z_callSi (As := [_, _, _]) (le := [some _, some _, some _]) rfl rfl (Nat.le_of_ble_eq_true rfl) (Nat.le_of_ble_eq_true rfl) rfl ?_
      refine z_iload rfl rfl ?_
      refine z_iload rfl rfl ?_
      refine z_icmp_ltF rfl (by decide) (by decide) (by decide) ?_
      refine z_iload rfl rfl ?_
      refine z_iload rfl rfl ?_
      refine z_icmp_gtF rfl (by decide) (by decide) (by decide) ?_
      refine z_pushI (z := 1) rfl rfl ?_
      refine z_goto rfl ?_
      refine z_bret rfl rfl (by decide) ?_
      show zW _ _ _ _ _ _ _ _ _ _
      refine z_bret rfl rfl (by decide) ?_
      show zW _ _ _ _ _ _ _ _ _ _
      refine z_if_neT rfl (by decide) (by decide) ?_
      refine z_aload rfl rfl ?_
      refine z_getR (r := 83) rfl rfl (hRr _ rm_50_58 (by decide)) ?_
      refine z_iload rfl rfl ?_
      refine z_iald (v := (-2)) rfl rfl (by decide) (by decide) ((e83.trans (by rw [hso]; rfl))) ?_
      refine z_pushI (z := (-1)) rfl rfl ?_
      refine z_icmp_neT rfl (by decide) (by decide) (by decide) ?_
      refine z_aload rfl rfl ?_
      refine z_getR (r := 83) rfl rfl (hRr _ rm_50_58 (by decide)) ?_
      refine z_iload rfl rfl ?_
      refine z_iald (v := (-2)) rfl rfl (by decide) (by decide) ((e83.trans (by rw [hso]; rfl))) ?_
      refine z_if_ltT rfl (by decide) (by decide) ?_
      refine z_iload rfl rfl ?_
      refine z_pushI (z := 0) rfl rfl ?_
      refine z_aload rfl rfl ?_
      refine z_getR (r := 84) rfl rfl (hRr _ rm_50_59 (by decide)) ?_
      refine z_iload rfl rfl ?_
      refine z_iald (v := J 48 3) rfl rfl (by decide) (by decide) (s7) ?_
      refine z_pushI (z := 1) rfl rfl ?_
      refine z_isub (e := (J 48 3) - 1) rfl rfl ?_
      refine z_callSi (As := [_, _, _]) (le := [some _, some _, some _]) rfl rfl (Nat.le_of_ble_eq_true rfl) (Nat.le_of_ble_eq_true rfl) rfl ?_
      refine z_iload rfl rfl ?_
      refine z_iload rfl rfl ?_
      refine z_icmp_ltF rfl (by omega) (by decide) (by omega) ?_
      refine z_iload rfl rfl ?_
      refine z_iload rfl rfl ?_
      refine z_icmp_gtT rfl (by omega) (by omega) (by omega) ?_
      refine z_pushI (z := 0) rfl rfl ?_
      refine z_bret rfl rfl (by decide) ?_
      show zW _ _ _ _ _ _ _ _ _ _
      refine z_if_eqT rfl (by decide) (by decide) ?_
      refine z_pushI (z := (-13)) rfl rfl ?_
      refine z_iret rfl rfl ?_
      show zW _ _ _ _ _ _ _ _ _ _
      refine z_istore rfl rfl ?_
      refine z_iload rfl rfl ?_
      refine z_if_geF rfl (by decide) (by decide) ?_
      refine z_iload rfl rfl ?_
      refine z_iret rfl rfl ?_
      refine ⟨?_, ?_⟩
      · first | rfl | exact congrArg (fun v => some (zi v)) (by omega) | (exfalso; omega)
      · exact hr
    · refine z_pushI (z := 0) rfl rfl ?_
      refine z_goto rfl ?_
      refine z_iret rfl rfl ?_
      show zW _ _ _ _ _ _ _ _ _ _
      refine z_istore rfl rfl ?_
      refine z_iload rfl rfl ?_
      refine z_if_geT rfl (by decide) (by decide) ?_
      refine z_aload rfl rfl ?_
      refine z_getR (r := 37) rfl rfl (hR _ rm_0_11) ?_
      refine z_iload rfl rfl ?_
      refine z_aald (r := 48) rfl rfl (by decide) (by decide) (hR _ rm_37_5) ?_
      refine z_iload rfl rfl ?_
      refine z_lload rfl rfl ?_
      refine z_callVi (As := [_, _]) (le := [some _, some _, some _, none]) rfl rfl rfl (Nat.le_of_ble_eq_true rfl) (Nat.le_of_ble_eq_true rfl) rfl ?_
      refine z_iload rfl rfl ?_
      refine z_if_ltF rfl (by omega) (by omega) ?_
      refine z_iload rfl rfl ?_
      refine z_aload rfl rfl ?_
      refine z_getI (v := J 48 3) rfl rfl (rfl) ?_
      refine z_icmp_geF rfl (by omega) (by omega) (by omega) ?_
      refine z_aload rfl rfl ?_
      refine z_getR (r := 49) rfl rfl (hR _ rm_48_4) ?_
      refine z_iload rfl rfl ?_
      refine z_aload rfl rfl ?_
      refine z_lload rfl rfl ?_
      refine z_callVi (As := [_]) (le := [some _, some _, none]) rfl rfl rfl (Nat.le_of_ble_eq_true rfl) (Nat.le_of_ble_eq_true rfl) rfl ?_
      refine z_aload rfl rfl ?_
      refine z_getI (v := 0) rfl rfl (hso) ?_
      refine z_swI (tg := 40) rfl (by decide) (T := [((0 : Int), 40), ((1 : Int), 45), ((2 : Int), 50), ((3 : Int), 66), ((4 : Int), 54)]) rfl (by decide) ?_
      refine z_lload rfl rfl ?_
      refine z_l2i rfl ?_
      refine z_i2b (e := zb v) rfl rfl ?_
      have q3 := zb_r v
      refine z_i2l rfl (by omega) ?_
      refine z_lret rfl rfl ?_
      show zW _ _ _ _ _ _ _ _ _ _
      refine z_last (e := zb v) rfl rfl (by decide) (by omega) rfl ?_
      refine z_vret rfl rfl ?_
      show zW _ _ _ _ _ _ _ _ _ _
      refine z_pushI (z := 1) rfl rfl ?_
      refine z_iret rfl rfl ?_
      refine ⟨_, rfl, ?_⟩
      show zW _ _ _ _ [some (.ref 50), some (zi 5), some (zi i), some (zl v), none, none, none] _ _ _ _ _
      refine z_aload rfl rfl ?_
      refine z_iload rfl rfl ?_
      refine z_iload rfl rfl ?_
      refine z_callVi (As := [_, _]) (le := [some _, some _, some _]) rfl rfl rfl (Nat.le_of_ble_eq_true rfl) (Nat.le_of_ble_eq_true rfl) rfl ?_
      refine z_iload rfl rfl ?_
      refine z_callSi (As := [_]) (le := [some _]) rfl rfl (Nat.le_of_ble_eq_true rfl) (Nat.le_of_ble_eq_true rfl) rfl ?_
      refine z_iload rfl rfl ?_
      refine z_pushI (z := 0) rfl rfl ?_
      refine z_pushI (z := 5) rfl rfl ?_
      refine z_callSi (As := [_, _, _]) (le := [some _, some _, some _]) rfl rfl (Nat.le_of_ble_eq_true rfl) (Nat.le_of_ble_eq_true rfl) rfl ?_
      refine z_iload rfl rfl ?_
      refine z_iload rfl rfl ?_
      refine z_icmp_ltF rfl (by decide) (by decide) (by decide) ?_
      refine z_iload rfl rfl ?_
      refine z_iload rfl rfl ?_
      refine z_icmp_gtF rfl (by decide) (by decide) (by decide) ?_
      refine z_pushI (z := 1) rfl rfl ?_
      refine z_goto rfl ?_
      refine z_bret rfl rfl (by decide) ?_
      show zW _ _ _ _ _ _ _ _ _ _
      refine z_bret rfl rfl (by decide) ?_
      show zW _ _ _ _ _ _ _ _ _ _
      refine z_if_neT rfl (by decide) (by decide) ?_
      refine z_aload rfl rfl ?_
      refine z_getR (r := 83) rfl rfl (hRr _ rm_50_58 (by decide)) ?_
      refine z_iload rfl rfl ?_
      refine z_iald (v := (-2)) rfl rfl (by decide) (by decide) ((e83.trans (by rw [hso]; rfl))) ?_
      refine z_pushI (z := (-1)) rfl rfl ?_
      refine z_icmp_neT rfl (by decide) (by decide) (by decide) ?_
      refine z_aload rfl rfl ?_
      refine z_getR (r := 83) rfl rfl (hRr _ rm_50_58 (by decide)) ?_
      refine z_iload rfl rfl ?_
      refine z_iald (v := (-2)) rfl rfl (by decide) (by decide) ((e83.trans (by rw [hso]; rfl))) ?_
      refine z_if_ltT rfl (by decide) (by decide) ?_
      refine z_iload rfl rfl ?_
      refine z_pushI (z := 0) rfl rfl ?_
      refine z_aload rfl rfl ?_
      refine z_getR (r := 84) rfl rfl (hRr _ rm_50_59 (by decide)) ?_
      refine z_iload rfl rfl ?_
      refine z_iald (v := J 48 3) rfl rfl (by decide) (by decide) (s7) ?_
      refine z_pushI (z := 1) rfl rfl ?_
      refine z_isub (e := (J 48 3) - 1) rfl rfl ?_
      refine z_callSi (As := [_, _, _]) (le := [some _, some _, some _]) rfl rfl (Nat.le_of_ble_eq_true rfl) (Nat.le_of_ble_eq_true rfl) rfl ?_
      refine z_iload rfl rfl ?_
      refine z_iload rfl rfl ?_
      refine z_icmp_ltF rfl (by omega) (by decide) (by omega) ?_
      refine z_iload rfl rfl ?_
      refine z_iload rfl rfl ?_
      refine z_icmp_gtF rfl (by omega) (by omega) (by omega) ?_
      refine z_pushI (z := 1) rfl rfl ?_
      refine z_goto rfl ?_
      refine z_bret rfl rfl (by decide) ?_
      show zW _ _ _ _ _ _ _ _ _ _
      refine z_if_eqF rfl (by decide) (by decide) ?_
      refine z_pushI (z := 0) rfl rfl ?_
      refine z_goto rfl ?_
      refine z_iret rfl rfl ?_
      show zW _ _ _ _ _ _ _ _ _ _
      refine z_istore rfl rfl ?_
      refine z_iload rfl rfl ?_
      refine z_if_geT rfl (by decide) (by decide) ?_
      refine z_pushI (z := (-2)) rfl rfl ?_
      refine z_aload rfl rfl ?_
      refine z_getR (r := 83) rfl rfl (hRr _ rm_50_58 (by decide)) ?_
      refine z_iload rfl rfl ?_
      refine z_iald (v := (-2)) rfl rfl (by decide) (by decide) ((e83.trans (by rw [hso]; rfl))) ?_
      refine z_isub (e := 0) rfl rfl ?_
      refine z_istore rfl rfl ?_
      refine z_aload rfl rfl ?_
      refine z_getR (r := 85) rfl rfl (hRr _ rm_50_60 (by decide)) ?_
      refine z_pushI (z := 60) rfl rfl ?_
      refine z_iload rfl rfl ?_
      refine z_imul (e := 300) rfl rfl ?_
      refine z_iload rfl rfl ?_
      refine z_iadd (e := 300 + i) rfl rfl ?_
      refine z_iload rfl rfl ?_
      refine z_if_neF rfl (by decide) (by decide) ?_
      refine z_lload rfl rfl ?_
      refine z_l2i rfl ?_
      refine z_i2b (e := zb v) rfl rfl ?_
      have q4 := zb_r v
      refine z_i2l rfl (by omega) ?_
      refine z_goto rfl ?_
      refine z_last (e := zb v) rfl rfl (by decide) (by omega) rfl ?_
      refine z_pushI (z := 1) rfl rfl ?_
      refine z_iret rfl rfl ?_
      refine ⟨?_, ?_⟩
      · first | rfl | exact congrArg (fun v => some (zi v)) (by omega) | (exfalso; omega)
      · have hk := (zK_r (k := (kL [] [])) (A := J))
        have hkm := (zK_x (a := 85) (x := 300 + i) (v := zb v) (zK_x (a := 49) (x := i) (v := zb v) (zK_r (k := (kL [49, 85] [])) (A := M)) rfl) rfl)
        exact ⟨hR, hG, RelY_k hk (by repeat' constructor) (fun p => by repeat' constructor) hY, RelD_k hk (by repeat' constructor) (fun p => by repeat' constructor) hD, RelP_k hk (by repeat' constructor) (fun p => by repeat' constructor) hP, RelC_k hk (by repeat' constructor) (fun p => by repeat' constructor) hC, RelA_k hk (by repeat' constructor) (fun p => by repeat' constructor) hAc, (RelS_one (J := J) (M := M) (c := 5) (fun t t1 t2 te => by have q : t = 0 ∨ t = 1 ∨ t = 2 ∨ t = 3 ∨ t = 4 ∨ t = 5 := (by omega); rcases q with rfl | rfl | rfl | rfl | rfl | rfl <;> first | exact absurd rfl te | exact ⟨fun j => rfl, rfl, rfl⟩) (fun t t1 t2 te => by have q : t = 0 ∨ t = 1 ∨ t = 2 ∨ t = 3 ∨ t = 4 ∨ t = 5 := (by omega); rcases q with rfl | rfl | rfl | rfl | rfl | rfl <;> first | exact absurd rfl te | exact ⟨fun j => rfl, fun j j1 j2 => (zU_x (by omega)).trans (zU_n (by decide))⟩) rfl (show RelS1 _ _ _ from ⟨(hS 5 (by decide) (by decide)).1, (hS 5 (by decide) (by decide)).2.1, s3, s4, (hS 5 (by decide) (by decide)).2.2.2.2.1, fun _ => ⟨s7.symm, fun k k1 k2 => by show (if k = i then zb v else M 49 k) = (if 300 + k = 300 + i then zb v else M 85 (300 + k)); by_cases e : k = i; rw [if_pos e, if_pos (by omega)]; rw [if_neg e, if_neg (by omega)]; exact s8 k k1 k2, (fun hq k k1 k2 => by show -128 ≤ (if k = i then zb v else M 49 k) ∧ (if k = i then zb v else M 49 k) ≤ 127; split <;> first | (have := zb_r v; omega) | exact s6.2.2 hq k k1 k2)⟩⟩) hS), RelT_k hk (by repeat' constructor) (fun p => by repeat' constructor) hTp, RelX_k hk (by repeat' constructor) (fun p => by repeat' constructor) hX, RelW_k hk ⟨rfl, rfl⟩ trivial hW⟩
theorem st_put_521 {X : Nat × (Nat → Int32)} {d : Nat} {J M : zA} {R : zR} {i v : Int} (hr : Rel X J M R) (hi : -2147483648 ≤ i ∧ i < 2147483648) (hv : -9223372036854775808 ≤ v ∧ v < 9223372036854775808) (hh : J 48 0 = 2) (hso : J 48 2 = 1) : zW X (d + 20) 138 0 (gEn 138 [(.ref 0), (zi 5), (zi i), (zl v)]) [] J M R (stP X (d + 20) 252 [(zi 5), (zi i), (zl v)]) := by
  have hr0 := hr
  obtain ⟨hR, hG, hY, hD, hP, hC, hAc, hS, hTp, hX, hW⟩ := hr0
  have hRr : zRoR R := zRoR_of hR
  have e83 : J 83 5 = -2 - J 48 2 := (hS 5 (by decide) (by decide)).1.symm.trans (cH_2 hh)
  have s3 : 0 ≤ J 48 2 ∧ J 48 2 ≤ 4 := (hS 5 (by decide) (by decide)).2.2.1
  have s4 : 0 ≤ J 48 3 ∧ J 48 3 ≤ 60 := (hS 5 (by decide) (by decide)).2.2.2.1
  have s6 := (hS 5 (by decide) (by decide)).2.2.2.2.2 hh
  have s7 : J 84 5 = J 48 3 := s6.1.symm
  have s8 : ∀ i, 0 ≤ i → i < J 48 3 → M 49 i = M 85 (300 + i) := s6.2.1
  show zW _ _ _ _ [some (.ref 0), some (zi 5), some (zi i), some (zl v), none, none] _ _ _ _ _
  refine z_iload rfl rfl ?_
  refine z_callSi (As := [_]) (le := [some _]) rfl rfl (Nat.le_of_ble_eq_true rfl) (Nat.le_of_ble_eq_true rfl) rfl ?_
  refine z_iload rfl rfl ?_
  refine z_if_ltF rfl (by decide) (by decide) ?_
  refine z_iload rfl rfl ?_
  refine z_pushI (z := 6) rfl rfl ?_
  refine z_icmp_geF rfl (by decide) (by decide) (by decide) ?_
  refine z_pushI (z := 1) rfl rfl ?_
  refine z_goto rfl ?_
  refine z_bret rfl rfl (by decide) ?_
  show zW _ _ _ _ _ _ _ _ _ _
  refine z_if_neT rfl (by decide) (by decide) ?_
  refine z_aload rfl rfl ?_
  refine z_getR (r := 37) rfl rfl (hR _ rm_0_11) ?_
  refine z_iload rfl rfl ?_
  refine z_aald (r := 48) rfl rfl (by decide) (by decide) (hR _ rm_37_5) ?_
  refine z_iload rfl rfl ?_
  refine z_callVi (As := [_]) (le := [some _, some _]) rfl rfl rfl (Nat.le_of_ble_eq_true rfl) (Nat.le_of_ble_eq_true rfl) rfl ?_
  refine z_aload rfl rfl ?_
  refine z_getI (v := 2) rfl rfl (hh) ?_
  refine z_if_neT rfl (by decide) (by decide) ?_
  refine z_aload rfl rfl ?_
  refine z_getI (v := 2) rfl rfl (hh) ?_
  refine z_pushI (z := 2) rfl rfl ?_
  refine z_icmp_eqT rfl (by decide) (by decide) (by decide) ?_
  refine z_iload rfl rfl ?_
  refine z_if_lt rfl (by omega) (fun h1 => ?_) (fun h1 => ?_)
  · refine z_pushI (z := (-13)) rfl rfl ?_
    refine z_iret rfl rfl ?_
    show zW _ _ _ _ _ _ _ _ _ _
    refine z_istore rfl rfl ?_
    refine z_iload rfl rfl ?_
    refine z_if_geF rfl (by decide) (by decide) ?_
    refine z_iload rfl rfl ?_
    refine z_iret rfl rfl ?_
    refine ⟨_, rfl, ?_⟩
    show zW _ _ _ _ [some (.ref 50), some (zi 5), some (zi i), some (zl v), none, none, none] _ _ _ _ _
    refine z_aload rfl rfl ?_
    refine z_iload rfl rfl ?_
    refine z_iload rfl rfl ?_
    refine z_callVi (As := [_, _]) (le := [some _, some _, some _]) rfl rfl rfl (Nat.le_of_ble_eq_true rfl) (Nat.le_of_ble_eq_true rfl) rfl ?_
    refine z_iload rfl rfl ?_
    refine z_callSi (As := [_]) (le := [some _]) rfl rfl (Nat.le_of_ble_eq_true rfl) (Nat.le_of_ble_eq_true rfl) rfl ?_
    refine z_iload rfl rfl ?_
    refine z_pushI (z := 0) rfl rfl ?_
    refine z_pushI (z := 5) rfl rfl ?_
    refine z_callSi (As := [_, _, _]) (le := [some _, some _, some _]) rfl rfl (Nat.le_of_ble_eq_true rfl) (Nat.le_of_ble_eq_true rfl) rfl ?_
    refine z_iload rfl rfl ?_
    refine z_iload rfl rfl ?_
    refine z_icmp_ltF rfl (by decide) (by decide) (by decide) ?_
    refine z_iload rfl rfl ?_
    refine z_iload rfl rfl ?_
    refine z_icmp_gtF rfl (by decide) (by decide) (by decide) ?_
    refine z_pushI (z := 1) rfl rfl ?_
    refine z_goto rfl ?_
    refine z_bret rfl rfl (by decide) ?_
    show zW _ _ _ _ _ _ _ _ _ _
    refine z_bret rfl rfl (by decide) ?_
    show zW _ _ _ _ _ _ _ _ _ _
    refine z_if_neT rfl (by decide) (by decide) ?_
    refine z_aload rfl rfl ?_
    refine z_getR (r := 83) rfl rfl (hRr _ rm_50_58 (by decide)) ?_
    refine z_iload rfl rfl ?_
    refine z_iald (v := (-3)) rfl rfl (by decide) (by decide) ((e83.trans (by rw [hso]; rfl))) ?_
    refine z_pushI (z := (-1)) rfl rfl ?_
    refine z_icmp_neT rfl (by decide) (by decide) (by decide) ?_
    refine z_aload rfl rfl ?_
    refine z_getR (r := 83) rfl rfl (hRr _ rm_50_58 (by decide)) ?_
    refine z_iload rfl rfl ?_
    refine z_iald (v := (-3)) rfl rfl (by decide) (by decide) ((e83.trans (by rw [hso]; rfl))) ?_
    refine z_if_ltT rfl (by decide) (by decide) ?_
    refine z_iload rfl rfl ?_
    refine z_pushI (z := 0) rfl rfl ?_
    refine z_aload rfl rfl ?_
    refine z_getR (r := 84) rfl rfl (hRr _ rm_50_59 (by decide)) ?_
    refine z_iload rfl rfl ?_
    refine z_iald (v := J 48 3) rfl rfl (by decide) (by decide) (s7) ?_
    refine z_pushI (z := 1) rfl rfl ?_
    refine z_isub (e := (J 48 3) - 1) rfl rfl ?_
    refine z_callSi (As := [_, _, _]) (le := [some _, some _, some _]) rfl rfl (Nat.le_of_ble_eq_true rfl) (Nat.le_of_ble_eq_true rfl) rfl ?_
    refine z_iload rfl rfl ?_
    refine z_iload rfl rfl ?_
    refine z_icmp_ltT rfl (by omega) (by decide) (by omega) ?_
    refine z_pushI (z := 0) rfl rfl ?_
    refine z_bret rfl rfl (by decide) ?_
    show zW _ _ _ _ _ _ _ _ _ _
    refine z_if_eqT rfl (by decide) (by decide) ?_
    refine z_pushI (z := (-13)) rfl rfl ?_
    refine z_iret rfl rfl ?_
    show zW _ _ _ _ _ _ _ _ _ _
    refine z_istore rfl rfl ?_
    refine z_iload rfl rfl ?_
    refine z_if_geF rfl (by decide) (by decide) ?_
    refine z_iload rfl rfl ?_
    refine z_iret rfl rfl ?_
    refine ⟨?_, ?_⟩
    · first | rfl | exact congrArg (fun v => some (zi v)) (by omega) | (exfalso; omega)
    · exact hr
  · refine z_iload rfl rfl ?_
    refine z_aload rfl rfl ?_
    refine z_getI (v := J 48 3) rfl rfl (rfl) ?_
    refine z_icmp_ge rfl (by omega) (by omega) (fun h2 => ?_) (fun h2 => ?_)
    · refine z_pushI (z := (-13)) rfl rfl ?_
      refine z_iret rfl rfl ?_
      show zW _ _ _ _ _ _ _ _ _ _
      refine z_istore rfl rfl ?_
      refine z_iload rfl rfl ?_
      refine z_if_geF rfl (by decide) (by decide) ?_
      refine z_iload rfl rfl ?_
      refine z_iret rfl rfl ?_
      refine ⟨_, rfl, ?_⟩
      show zW _ _ _ _ [some (.ref 50), some (zi 5), some (zi i), some (zl v), none, none, none] _ _ _ _ _
      refine z_aload rfl rfl ?_
      refine z_iload rfl rfl ?_
      refine z_iload rfl rfl ?_
      refine z_callVi (As := [_, _]) (le := [some _, some _, some _]) rfl rfl rfl (Nat.le_of_ble_eq_true rfl) (Nat.le_of_ble_eq_true rfl) rfl ?_
      refine z_iload rfl rfl ?_
      refine z_callSi (As := [_]) (le := [some _]) rfl rfl (Nat.le_of_ble_eq_true rfl) (Nat.le_of_ble_eq_true rfl) rfl ?_
      refine z_iload rfl rfl ?_
      refine z_pushI (z := 0) rfl rfl ?_
      refine z_pushI (z := 5) rfl rfl ?_
      refine z_callSi (As := [_, _, _]) (le := [some _, some _, some _]) rfl rfl (Nat.le_of_ble_eq_true rfl) (Nat.le_of_ble_eq_true rfl) rfl ?_
      refine z_iload rfl rfl ?_
      refine z_iload rfl rfl ?_
      refine z_icmp_ltF rfl (by decide) (by decide) (by decide) ?_
      refine z_iload rfl rfl ?_
      refine z_iload rfl rfl ?_
      refine z_icmp_gtF rfl (by decide) (by decide) (by decide) ?_
      refine z_pushI (z := 1) rfl rfl ?_
      refine z_goto rfl ?_
      refine z_bret rfl rfl (by decide) ?_
      show zW _ _ _ _ _ _ _ _ _ _
      refine z_bret rfl rfl (by decide) ?_
      show zW _ _ _ _ _ _ _ _ _ _
      refine z_if_neT rfl (by decide) (by decide) ?_
      refine z_aload rfl rfl ?_
      refine z_getR (r := 83) rfl rfl (hRr _ rm_50_58 (by decide)) ?_
      refine z_iload rfl rfl ?_
      refine z_iald (v := (-3)) rfl rfl (by decide) (by decide) ((e83.trans (by rw [hso]; rfl))) ?_
      refine z_pushI (z := (-1)) rfl rfl ?_
      refine z_icmp_neT rfl (by decide) (by decide) (by decide) ?_
      refine z_aload rfl rfl ?_
      refine z_getR (r := 83) rfl rfl (hRr _ rm_50_58 (by decide)) ?_
      refine z_iload rfl rfl ?_
      refine z_iald (v := (-3)) rfl rfl (by decide) (by decide) ((e83.trans (by rw [hso]; rfl))) ?_
      refine z_if_ltT rfl (by decide) (by decide) ?_
      refine z_iload rfl rfl ?_
      refine z_pushI (z := 0) rfl rfl ?_
      refine z_aload rfl rfl ?_
      refine z_getR (r := 84) rfl rfl (hRr _ rm_50_59 (by decide)) ?_
      refine z_iload rfl rfl ?_
      refine z_iald (v := J 48 3) rfl rfl (by decide) (by decide) (s7) ?_
      refine z_pushI (z := 1) rfl rfl ?_
      refine z_isub (e := (J 48 3) - 1) rfl rfl ?_
      refine z_callSi (As := [_, _, _]) (le := [some _, some _, some _]) rfl rfl (Nat.le_of_ble_eq_true rfl) (Nat.le_of_ble_eq_true rfl) rfl ?_
      refine z_iload rfl rfl ?_
      refine z_iload rfl rfl ?_
      refine z_icmp_ltF rfl (by omega) (by decide) (by omega) ?_
      refine z_iload rfl rfl ?_
      refine z_iload rfl rfl ?_
      refine z_icmp_gtT rfl (by omega) (by omega) (by omega) ?_
      refine z_pushI (z := 0) rfl rfl ?_
      refine z_bret rfl rfl (by decide) ?_
      show zW _ _ _ _ _ _ _ _ _ _
      refine z_if_eqT rfl (by decide) (by decide) ?_
      refine z_pushI (z := (-13)) rfl rfl ?_
      refine z_iret rfl rfl ?_
      show zW _ _ _ _ _ _ _ _ _ _
      refine z_istore rfl rfl ?_
      refine z_iload rfl rfl ?_
      refine z_if_geF rfl (by decide) (by decide) ?_
      refine z_iload rfl rfl ?_
      refine z_iret rfl rfl ?_
      refine ⟨?_, ?_⟩
      · first | rfl | exact congrArg (fun v => some (zi v)) (by omega) | (exfalso; omega)
      · exact hr
    · refine z_pushI (z := 0) rfl rfl ?_
      refine z_goto rfl ?_
      refine z_iret rfl rfl ?_
      show zW _ _ _ _ _ _ _ _ _ _
      refine z_istore rfl rfl ?_
      refine z_iload rfl rfl ?_
      refine z_if_geT rfl (by decide) (by decide) ?_
      refine z_aload rfl rfl ?_
      refine z_getR (r := 37) rfl rfl (hR _ rm_0_11) ?_
      refine z_iload rfl rfl ?_
      refine z_aald (r := 48) rfl rfl (by decide) (by decide) (hR _ rm_37_5) ?_
      refine z_iload rfl rfl ?_
      refine z_lload rfl rfl ?_
      refine z_callVi (As := [_, _]) (le := [some _, some _, some _, none]) rfl rfl rfl (Nat.le_of_ble_eq_true rfl) (Nat.le_of_ble_eq_true rfl) rfl ?_
      refine z_iload rfl rfl ?_
      refine z_if_ltF rfl (by omega) (by omega) ?_
      refine z_iload rfl rfl ?_
      refine z_aload rfl rfl ?_
      refine z_getI (v := J 48 3) rfl rfl (rfl) ?_
      refine z_icmp_geF rfl (by omega) (by omega) (by omega) ?_
      refine z_aload rfl rfl ?_
      refine z_getR (r := 49) rfl rfl (hR _ rm_48_4) ?_
      refine z_iload rfl rfl ?_
      refine z_aload rfl rfl ?_
      refine z_lload rfl rfl ?_
      refine z_callVi (As := [_]) (le := [some _, some _, none]) rfl rfl rfl (Nat.le_of_ble_eq_true rfl) (Nat.le_of_ble_eq_true rfl) rfl ?_
      refine z_aload rfl rfl ?_
      refine z_getI (v := 1) rfl rfl (hso) ?_
      refine z_swI (tg := 45) rfl (by decide) (T := [((0 : Int), 40), ((1 : Int), 45), ((2 : Int), 50), ((3 : Int), 66), ((4 : Int), 54)]) rfl (by decide) ?_
      refine z_lload rfl rfl ?_
      refine z_l2i rfl ?_
      refine z_i2s (e := zh v) rfl rfl ?_
      have q3 := zh_r v
      refine z_i2l rfl (by omega) ?_
      refine z_lret rfl rfl ?_
      show zW _ _ _ _ _ _ _ _ _ _
      refine z_last (e := zh v) rfl rfl (by decide) (by omega) rfl ?_
      refine z_vret rfl rfl ?_
      show zW _ _ _ _ _ _ _ _ _ _
      refine z_pushI (z := 1) rfl rfl ?_
      refine z_iret rfl rfl ?_
      refine ⟨_, rfl, ?_⟩
      show zW _ _ _ _ [some (.ref 50), some (zi 5), some (zi i), some (zl v), none, none, none] _ _ _ _ _
      refine z_aload rfl rfl ?_
      refine z_iload rfl rfl ?_
      refine z_iload rfl rfl ?_
      refine z_callVi (As := [_, _]) (le := [some _, some _, some _]) rfl rfl rfl (Nat.le_of_ble_eq_true rfl) (Nat.le_of_ble_eq_true rfl) rfl ?_
      refine z_iload rfl rfl ?_
      refine z_callSi (As := [_]) (le := [some _]) rfl rfl (Nat.le_of_ble_eq_true rfl) (Nat.le_of_ble_eq_true rfl) rfl ?_
      refine z_iload rfl rfl ?_
      refine z_pushI (z := 0) rfl rfl ?_
      refine z_pushI (z := 5) rfl rfl ?_
      refine z_callSi (As := [_, _, _]) (le := [some _, some _, some _]) rfl rfl (Nat.le_of_ble_eq_true rfl) (Nat.le_of_ble_eq_true rfl) rfl ?_
      refine z_iload rfl rfl ?_
      refine z_iload rfl rfl ?_
      refine z_icmp_ltF rfl (by decide) (by decide) (by decide) ?_
      refine z_iload rfl rfl ?_
      refine z_iload rfl rfl ?_
      refine z_icmp_gtF rfl (by decide) (by decide) (by decide) ?_
      refine z_pushI (z := 1) rfl rfl ?_
      refine z_goto rfl ?_
      refine z_bret rfl rfl (by decide) ?_
      show zW _ _ _ _ _ _ _ _ _ _
      refine z_bret rfl rfl (by decide) ?_
      show zW _ _ _ _ _ _ _ _ _ _
      refine z_if_neT rfl (by decide) (by decide) ?_
      refine z_aload rfl rfl ?_
      refine z_getR (r := 83) rfl rfl (hRr _ rm_50_58 (by decide)) ?_
      refine z_iload rfl rfl ?_
      refine z_iald (v := (-3)) rfl rfl (by decide) (by decide) ((e83.trans (by rw [hso]; rfl))) ?_
      refine z_pushI (z := (-1)) rfl rfl ?_
      refine z_icmp_neT rfl (by decide) (by decide) (by decide) ?_
      refine z_aload rfl rfl ?_
      refine z_getR (r := 83) rfl rfl (hRr _ rm_50_58 (by decide)) ?_
      refine z_iload rfl rfl ?_
      refine z_iald (v := (-3)) rfl rfl (by decide) (by decide) ((e83.trans (by rw [hso]; rfl))) ?_
      refine z_if_ltT rfl (by decide) (by decide) ?_
      refine z_iload rfl rfl ?_
      refine z_pushI (z := 0) rfl rfl ?_
      refine z_aload rfl rfl ?_
      refine z_getR (r := 84) rfl rfl (hRr _ rm_50_59 (by decide)) ?_
      refine z_iload rfl rfl ?_
      refine z_iald (v := J 48 3) rfl rfl (by decide) (by decide) (s7) ?_
      refine z_pushI (z := 1) rfl rfl ?_
      refine z_isub (e := (J 48 3) - 1) rfl rfl ?_
      refine z_callSi (As := [_, _, _]) (le := [some _, some _, some _]) rfl rfl (Nat.le_of_ble_eq_true rfl) (Nat.le_of_ble_eq_true rfl) rfl ?_
      refine z_iload rfl rfl ?_
      refine z_iload rfl rfl ?_
      refine z_icmp_ltF rfl (by omega) (by decide) (by omega) ?_
      refine z_iload rfl rfl ?_
      refine z_iload rfl rfl ?_
      refine z_icmp_gtF rfl (by omega) (by omega) (by omega) ?_
      refine z_pushI (z := 1) rfl rfl ?_
      refine z_goto rfl ?_
      refine z_bret rfl rfl (by decide) ?_
      show zW _ _ _ _ _ _ _ _ _ _
      refine z_if_eqF rfl (by decide) (by decide) ?_
      refine z_pushI (z := 0) rfl rfl ?_
      refine z_goto rfl ?_
      refine z_iret rfl rfl ?_
      show zW _ _ _ _ _ _ _ _ _ _
      refine z_istore rfl rfl ?_
      refine z_iload rfl rfl ?_
      refine z_if_geT rfl (by decide) (by decide) ?_
      refine z_pushI (z := (-2)) rfl rfl ?_
      refine z_aload rfl rfl ?_
      refine z_getR (r := 83) rfl rfl (hRr _ rm_50_58 (by decide)) ?_
      refine z_iload rfl rfl ?_
      refine z_iald (v := (-3)) rfl rfl (by decide) (by decide) ((e83.trans (by rw [hso]; rfl))) ?_
      refine z_isub (e := 1) rfl rfl ?_
      refine z_istore rfl rfl ?_
      refine z_aload rfl rfl ?_
      refine z_getR (r := 85) rfl rfl (hRr _ rm_50_60 (by decide)) ?_
      refine z_pushI (z := 60) rfl rfl ?_
      refine z_iload rfl rfl ?_
      refine z_imul (e := 300) rfl rfl ?_
      refine z_iload rfl rfl ?_
      refine z_iadd (e := 300 + i) rfl rfl ?_
      refine z_iload rfl rfl ?_
      refine z_if_neT rfl (by decide) (by decide) ?_
      refine z_iload rfl rfl ?_
      refine z_pushI (z := 1) rfl rfl ?_
      refine z_icmp_neF rfl (by decide) (by decide) (by decide) ?_
      refine z_lload rfl rfl ?_
      refine z_l2i rfl ?_
      refine z_i2s (e := zh v) rfl rfl ?_
      have q4 := zh_r v
      refine z_i2l rfl (by omega) ?_
      refine z_goto rfl ?_
      refine z_last (e := zh v) rfl rfl (by decide) (by omega) rfl ?_
      refine z_pushI (z := 1) rfl rfl ?_
      refine z_iret rfl rfl ?_
      refine ⟨?_, ?_⟩
      · first | rfl | exact congrArg (fun v => some (zi v)) (by omega) | (exfalso; omega)
      · have hk := (zK_r (k := (kL [] [])) (A := J))
        have hkm := (zK_x (a := 85) (x := 300 + i) (v := zh v) (zK_x (a := 49) (x := i) (v := zh v) (zK_r (k := (kL [49, 85] [])) (A := M)) rfl) rfl)
        exact ⟨hR, hG, RelY_k hk (by repeat' constructor) (fun p => by repeat' constructor) hY, RelD_k hk (by repeat' constructor) (fun p => by repeat' constructor) hD, RelP_k hk (by repeat' constructor) (fun p => by repeat' constructor) hP, RelC_k hk (by repeat' constructor) (fun p => by repeat' constructor) hC, RelA_k hk (by repeat' constructor) (fun p => by repeat' constructor) hAc, (RelS_one (J := J) (M := M) (c := 5) (fun t t1 t2 te => by have q : t = 0 ∨ t = 1 ∨ t = 2 ∨ t = 3 ∨ t = 4 ∨ t = 5 := (by omega); rcases q with rfl | rfl | rfl | rfl | rfl | rfl <;> first | exact absurd rfl te | exact ⟨fun j => rfl, rfl, rfl⟩) (fun t t1 t2 te => by have q : t = 0 ∨ t = 1 ∨ t = 2 ∨ t = 3 ∨ t = 4 ∨ t = 5 := (by omega); rcases q with rfl | rfl | rfl | rfl | rfl | rfl <;> first | exact absurd rfl te | exact ⟨fun j => rfl, fun j j1 j2 => (zU_x (by omega)).trans (zU_n (by decide))⟩) rfl (show RelS1 _ _ _ from ⟨(hS 5 (by decide) (by decide)).1, (hS 5 (by decide) (by decide)).2.1, s3, s4, (hS 5 (by decide) (by decide)).2.2.2.2.1, fun _ => ⟨s7.symm, fun k k1 k2 => by show (if k = i then zh v else M 49 k) = (if 300 + k = 300 + i then zh v else M 85 (300 + k)); by_cases e : k = i; rw [if_pos e, if_pos (by omega)]; rw [if_neg e, if_neg (by omega)]; exact s8 k k1 k2, (fun hq => absurd (Eq.trans (Eq.symm hq) hso) (by decide))⟩⟩) hS), RelT_k hk (by repeat' constructor) (fun p => by repeat' constructor) hTp, RelX_k hk (by repeat' constructor) (fun p => by repeat' constructor) hX, RelW_k hk ⟨rfl, rfl⟩ trivial hW⟩
theorem st_put_522 {X : Nat × (Nat → Int32)} {d : Nat} {J M : zA} {R : zR} {i v : Int} (hr : Rel X J M R) (hi : -2147483648 ≤ i ∧ i < 2147483648) (hv : -9223372036854775808 ≤ v ∧ v < 9223372036854775808) (hh : J 48 0 = 2) (hso : J 48 2 = 2) : zW X (d + 20) 138 0 (gEn 138 [(.ref 0), (zi 5), (zi i), (zl v)]) [] J M R (stP X (d + 20) 252 [(zi 5), (zi i), (zl v)]) := by
  have hr0 := hr
  obtain ⟨hR, hG, hY, hD, hP, hC, hAc, hS, hTp, hX, hW⟩ := hr0
  have hRr : zRoR R := zRoR_of hR
  have e83 : J 83 5 = -2 - J 48 2 := (hS 5 (by decide) (by decide)).1.symm.trans (cH_2 hh)
  have s3 : 0 ≤ J 48 2 ∧ J 48 2 ≤ 4 := (hS 5 (by decide) (by decide)).2.2.1
  have s4 : 0 ≤ J 48 3 ∧ J 48 3 ≤ 60 := (hS 5 (by decide) (by decide)).2.2.2.1
  have s6 := (hS 5 (by decide) (by decide)).2.2.2.2.2 hh
  have s7 : J 84 5 = J 48 3 := s6.1.symm
  have s8 : ∀ i, 0 ≤ i → i < J 48 3 → M 49 i = M 85 (300 + i) := s6.2.1
  show zW _ _ _ _ [some (.ref 0), some (zi 5), some (zi i), some (zl v), none, none] _ _ _ _ _
  refine z_iload rfl rfl ?_
  refine z_callSi (As := [_]) (le := [some _]) rfl rfl (Nat.le_of_ble_eq_true rfl) (Nat.le_of_ble_eq_true rfl) rfl ?_
  refine z_iload rfl rfl ?_
  refine z_if_ltF rfl (by decide) (by decide) ?_
  refine z_iload rfl rfl ?_
  refine z_pushI (z := 6) rfl rfl ?_
  refine z_icmp_geF rfl (by decide) (by decide) (by decide) ?_
  refine z_pushI (z := 1) rfl rfl ?_
  refine z_goto rfl ?_
  refine z_bret rfl rfl (by decide) ?_
  show zW _ _ _ _ _ _ _ _ _ _
  refine z_if_neT rfl (by decide) (by decide) ?_
  refine z_aload rfl rfl ?_
  refine z_getR (r := 37) rfl rfl (hR _ rm_0_11) ?_
  refine z_iload rfl rfl ?_
  refine z_aald (r := 48) rfl rfl (by decide) (by decide) (hR _ rm_37_5) ?_
  refine z_iload rfl rfl ?_
  refine z_callVi (As := [_]) (le := [some _, some _]) rfl rfl rfl (Nat.le_of_ble_eq_true rfl) (Nat.le_of_ble_eq_true rfl) rfl ?_
  refine z_aload rfl rfl ?_
  refine z_getI (v := 2) rfl rfl (hh) ?_
  refine z_if_neT rfl (by decide) (by decide) ?_
  refine z_aload rfl rfl ?_
  refine z_getI (v := 2) rfl rfl (hh) ?_
  refine z_pushI (z := 2) rfl rfl ?_
  refine z_icmp_eqT rfl (by decide) (by decide) (by decide) ?_
  refine z_iload rfl rfl ?_
  refine z_if_lt rfl (by omega) (fun h1 => ?_) (fun h1 => ?_)
  · refine z_pushI (z := (-13)) rfl rfl ?_
    refine z_iret rfl rfl ?_
    show zW _ _ _ _ _ _ _ _ _ _
    refine z_istore rfl rfl ?_
    refine z_iload rfl rfl ?_
    refine z_if_geF rfl (by decide) (by decide) ?_
    refine z_iload rfl rfl ?_
    refine z_iret rfl rfl ?_
    refine ⟨_, rfl, ?_⟩
    show zW _ _ _ _ [some (.ref 50), some (zi 5), some (zi i), some (zl v), none, none, none] _ _ _ _ _
    refine z_aload rfl rfl ?_
    refine z_iload rfl rfl ?_
    refine z_iload rfl rfl ?_
    refine z_callVi (As := [_, _]) (le := [some _, some _, some _]) rfl rfl rfl (Nat.le_of_ble_eq_true rfl) (Nat.le_of_ble_eq_true rfl) rfl ?_
    refine z_iload rfl rfl ?_
    refine z_callSi (As := [_]) (le := [some _]) rfl rfl (Nat.le_of_ble_eq_true rfl) (Nat.le_of_ble_eq_true rfl) rfl ?_
    refine z_iload rfl rfl ?_
    refine z_pushI (z := 0) rfl rfl ?_
    refine z_pushI (z := 5) rfl rfl ?_
    refine z_callSi (As := [_, _, _]) (le := [some _, some _, some _]) rfl rfl (Nat.le_of_ble_eq_true rfl) (Nat.le_of_ble_eq_true rfl) rfl ?_
    refine z_iload rfl rfl ?_
    refine z_iload rfl rfl ?_
    refine z_icmp_ltF rfl (by decide) (by decide) (by decide) ?_
    refine z_iload rfl rfl ?_
    refine z_iload rfl rfl ?_
    refine z_icmp_gtF rfl (by decide) (by decide) (by decide) ?_
    refine z_pushI (z := 1) rfl rfl ?_
    refine z_goto rfl ?_
    refine z_bret rfl rfl (by decide) ?_
    show zW _ _ _ _ _ _ _ _ _ _
    refine z_bret rfl rfl (by decide) ?_
    show zW _ _ _ _ _ _ _ _ _ _
    refine z_if_neT rfl (by decide) (by decide) ?_
    refine z_aload rfl rfl ?_
    refine z_getR (r := 83) rfl rfl (hRr _ rm_50_58 (by decide)) ?_
    refine z_iload rfl rfl ?_
    refine z_iald (v := (-4)) rfl rfl (by decide) (by decide) ((e83.trans (by rw [hso]; rfl))) ?_
    refine z_pushI (z := (-1)) rfl rfl ?_
    refine z_icmp_neT rfl (by decide) (by decide) (by decide) ?_
    refine z_aload rfl rfl ?_
    refine z_getR (r := 83) rfl rfl (hRr _ rm_50_58 (by decide)) ?_
    refine z_iload rfl rfl ?_
    refine z_iald (v := (-4)) rfl rfl (by decide) (by decide) ((e83.trans (by rw [hso]; rfl))) ?_
    refine z_if_ltT rfl (by decide) (by decide) ?_
    refine z_iload rfl rfl ?_
    refine z_pushI (z := 0) rfl rfl ?_
    refine z_aload rfl rfl ?_
    refine z_getR (r := 84) rfl rfl (hRr _ rm_50_59 (by decide)) ?_
    refine z_iload rfl rfl ?_
    refine z_iald (v := J 48 3) rfl rfl (by decide) (by decide) (s7) ?_
    refine z_pushI (z := 1) rfl rfl ?_
    refine z_isub (e := (J 48 3) - 1) rfl rfl ?_
    refine z_callSi (As := [_, _, _]) (le := [some _, some _, some _]) rfl rfl (Nat.le_of_ble_eq_true rfl) (Nat.le_of_ble_eq_true rfl) rfl ?_
    refine z_iload rfl rfl ?_
    refine z_iload rfl rfl ?_
    refine z_icmp_ltT rfl (by omega) (by decide) (by omega) ?_
    refine z_pushI (z := 0) rfl rfl ?_
    refine z_bret rfl rfl (by decide) ?_
    show zW _ _ _ _ _ _ _ _ _ _
    refine z_if_eqT rfl (by decide) (by decide) ?_
    refine z_pushI (z := (-13)) rfl rfl ?_
    refine z_iret rfl rfl ?_
    show zW _ _ _ _ _ _ _ _ _ _
    refine z_istore rfl rfl ?_
    refine z_iload rfl rfl ?_
    refine z_if_geF rfl (by decide) (by decide) ?_
    refine z_iload rfl rfl ?_
    refine z_iret rfl rfl ?_
    refine ⟨?_, ?_⟩
    · first | rfl | exact congrArg (fun v => some (zi v)) (by omega) | (exfalso; omega)
    · exact hr
  · refine z_iload rfl rfl ?_
    refine z_aload rfl rfl ?_
    refine z_getI (v := J 48 3) rfl rfl (rfl) ?_
    refine z_icmp_ge rfl (by omega) (by omega) (fun h2 => ?_) (fun h2 => ?_)
    · refine z_pushI (z := (-13)) rfl rfl ?_
      refine z_iret rfl rfl ?_
      show zW _ _ _ _ _ _ _ _ _ _
      refine z_istore rfl rfl ?_
      refine z_iload rfl rfl ?_
      refine z_if_geF rfl (by decide) (by decide) ?_
      refine z_iload rfl rfl ?_
      refine z_iret rfl rfl ?_
      refine ⟨_, rfl, ?_⟩
      show zW _ _ _ _ [some (.ref 50), some (zi 5), some (zi i), some (zl v), none, none, none] _ _ _ _ _
      refine z_aload rfl rfl ?_
      refine z_iload rfl rfl ?_
      refine z_iload rfl rfl ?_
      refine z_callVi (As := [_, _]) (le := [some _, some _, some _]) rfl rfl rfl (Nat.le_of_ble_eq_true rfl) (Nat.le_of_ble_eq_true rfl) rfl ?_
      refine z_iload rfl rfl ?_
      refine z_callSi (As := [_]) (le := [some _]) rfl rfl (Nat.le_of_ble_eq_true rfl) (Nat.le_of_ble_eq_true rfl) rfl ?_
      refine z_iload rfl rfl ?_
      refine z_pushI (z := 0) rfl rfl ?_
      refine z_pushI (z := 5) rfl rfl ?_
      refine z_callSi (As := [_, _, _]) (le := [some _, some _, some _]) rfl rfl (Nat.le_of_ble_eq_true rfl) (Nat.le_of_ble_eq_true rfl) rfl ?_
      refine z_iload rfl rfl ?_
      refine z_iload rfl rfl ?_
      refine z_icmp_ltF rfl (by decide) (by decide) (by decide) ?_
      refine z_iload rfl rfl ?_
      refine z_iload rfl rfl ?_
      refine z_icmp_gtF rfl (by decide) (by decide) (by decide) ?_
      refine z_pushI (z := 1) rfl rfl ?_
      refine z_goto rfl ?_
      refine z_bret rfl rfl (by decide) ?_
      show zW _ _ _ _ _ _ _ _ _ _
      refine z_bret rfl rfl (by decide) ?_
      show zW _ _ _ _ _ _ _ _ _ _
      refine z_if_neT rfl (by decide) (by decide) ?_
      refine z_aload rfl rfl ?_
      refine z_getR (r := 83) rfl rfl (hRr _ rm_50_58 (by decide)) ?_
      refine z_iload rfl rfl ?_
      refine z_iald (v := (-4)) rfl rfl (by decide) (by decide) ((e83.trans (by rw [hso]; rfl))) ?_
      refine z_pushI (z := (-1)) rfl rfl ?_
      refine z_icmp_neT rfl (by decide) (by decide) (by decide) ?_
      refine z_aload rfl rfl ?_
      refine z_getR (r := 83) rfl rfl (hRr _ rm_50_58 (by decide)) ?_
      refine z_iload rfl rfl ?_
      refine z_iald (v := (-4)) rfl rfl (by decide) (by decide) ((e83.trans (by rw [hso]; rfl))) ?_
      refine z_if_ltT rfl (by decide) (by decide) ?_
      refine z_iload rfl rfl ?_
      refine z_pushI (z := 0) rfl rfl ?_
      refine z_aload rfl rfl ?_
      refine z_getR (r := 84) rfl rfl (hRr _ rm_50_59 (by decide)) ?_
      refine z_iload rfl rfl ?_
      refine z_iald (v := J 48 3) rfl rfl (by decide) (by decide) (s7) ?_
      refine z_pushI (z := 1) rfl rfl ?_
      refine z_isub (e := (J 48 3) - 1) rfl rfl ?_
      refine z_callSi (As := [_, _, _]) (le := [some _, some _, some _]) rfl rfl (Nat.le_of_ble_eq_true rfl) (Nat.le_of_ble_eq_true rfl) rfl ?_
      refine z_iload rfl rfl ?_
      refine z_iload rfl rfl ?_
      refine z_icmp_ltF rfl (by omega) (by decide) (by omega) ?_
      refine z_iload rfl rfl ?_
      refine z_iload rfl rfl ?_
      refine z_icmp_gtT rfl (by omega) (by omega) (by omega) ?_
      refine z_pushI (z := 0) rfl rfl ?_
      refine z_bret rfl rfl (by decide) ?_
      show zW _ _ _ _ _ _ _ _ _ _
      refine z_if_eqT rfl (by decide) (by decide) ?_
      refine z_pushI (z := (-13)) rfl rfl ?_
      refine z_iret rfl rfl ?_
      show zW _ _ _ _ _ _ _ _ _ _
      refine z_istore rfl rfl ?_
      refine z_iload rfl rfl ?_
      refine z_if_geF rfl (by decide) (by decide) ?_
      refine z_iload rfl rfl ?_
      refine z_iret rfl rfl ?_
      refine ⟨?_, ?_⟩
      · first | rfl | exact congrArg (fun v => some (zi v)) (by omega) | (exfalso; omega)
      · exact hr
    · refine z_pushI (z := 0) rfl rfl ?_
      refine z_goto rfl ?_
      refine z_iret rfl rfl ?_
      show zW _ _ _ _ _ _ _ _ _ _
      refine z_istore rfl rfl ?_
      refine z_iload rfl rfl ?_
      refine z_if_geT rfl (by decide) (by decide) ?_
      refine z_aload rfl rfl ?_
      refine z_getR (r := 37) rfl rfl (hR _ rm_0_11) ?_
      refine z_iload rfl rfl ?_
      refine z_aald (r := 48) rfl rfl (by decide) (by decide) (hR _ rm_37_5) ?_
      refine z_iload rfl rfl ?_
      refine z_lload rfl rfl ?_
      refine z_callVi (As := [_, _]) (le := [some _, some _, some _, none]) rfl rfl rfl (Nat.le_of_ble_eq_true rfl) (Nat.le_of_ble_eq_true rfl) rfl ?_
      refine z_iload rfl rfl ?_
      refine z_if_ltF rfl (by omega) (by omega) ?_
      refine z_iload rfl rfl ?_
      refine z_aload rfl rfl ?_
      refine z_getI (v := J 48 3) rfl rfl (rfl) ?_
      refine z_icmp_geF rfl (by omega) (by omega) (by omega) ?_
      refine z_aload rfl rfl ?_
      refine z_getR (r := 49) rfl rfl (hR _ rm_48_4) ?_
      refine z_iload rfl rfl ?_
      refine z_aload rfl rfl ?_
      refine z_lload rfl rfl ?_
      refine z_callVi (As := [_]) (le := [some _, some _, none]) rfl rfl rfl (Nat.le_of_ble_eq_true rfl) (Nat.le_of_ble_eq_true rfl) rfl ?_
      refine z_aload rfl rfl ?_
      refine z_getI (v := 2) rfl rfl (hso) ?_
      refine z_swI (tg := 50) rfl (by decide) (T := [((0 : Int), 40), ((1 : Int), 45), ((2 : Int), 50), ((3 : Int), 66), ((4 : Int), 54)]) rfl (by decide) ?_
      refine z_lload rfl rfl ?_
      refine z_l2i rfl ?_
      refine z_topn (e := zn v) rfl ?_
      have q3 := zn_r v
      refine z_i2l rfl (by omega) ?_
      refine z_lret rfl rfl ?_
      show zW _ _ _ _ _ _ _ _ _ _
      refine z_last (e := zn v) rfl rfl (by decide) (by omega) rfl ?_
      refine z_vret rfl rfl ?_
      show zW _ _ _ _ _ _ _ _ _ _
      refine z_pushI (z := 1) rfl rfl ?_
      refine z_iret rfl rfl ?_
      refine ⟨_, rfl, ?_⟩
      show zW _ _ _ _ [some (.ref 50), some (zi 5), some (zi i), some (zl v), none, none, none] _ _ _ _ _
      refine z_aload rfl rfl ?_
      refine z_iload rfl rfl ?_
      refine z_iload rfl rfl ?_
      refine z_callVi (As := [_, _]) (le := [some _, some _, some _]) rfl rfl rfl (Nat.le_of_ble_eq_true rfl) (Nat.le_of_ble_eq_true rfl) rfl ?_
      refine z_iload rfl rfl ?_
      refine z_callSi (As := [_]) (le := [some _]) rfl rfl (Nat.le_of_ble_eq_true rfl) (Nat.le_of_ble_eq_true rfl) rfl ?_
      refine z_iload rfl rfl ?_
      refine z_pushI (z := 0) rfl rfl ?_
      refine z_pushI (z := 5) rfl rfl ?_
      refine z_callSi (As := [_, _, _]) (le := [some _, some _, some _]) rfl rfl (Nat.le_of_ble_eq_true rfl) (Nat.le_of_ble_eq_true rfl) rfl ?_
      refine z_iload rfl rfl ?_
      refine z_iload rfl rfl ?_
      refine z_icmp_ltF rfl (by decide) (by decide) (by decide) ?_
      refine z_iload rfl rfl ?_
      refine z_iload rfl rfl ?_
      refine z_icmp_gtF rfl (by decide) (by decide) (by decide) ?_
      refine z_pushI (z := 1) rfl rfl ?_
      refine z_goto rfl ?_
      refine z_bret rfl rfl (by decide) ?_
      show zW _ _ _ _ _ _ _ _ _ _
      refine z_bret rfl rfl (by decide) ?_
      show zW _ _ _ _ _ _ _ _ _ _
      refine z_if_neT rfl (by decide) (by decide) ?_
      refine z_aload rfl rfl ?_
      refine z_getR (r := 83) rfl rfl (hRr _ rm_50_58 (by decide)) ?_
      refine z_iload rfl rfl ?_
      refine z_iald (v := (-4)) rfl rfl (by decide) (by decide) ((e83.trans (by rw [hso]; rfl))) ?_
      refine z_pushI (z := (-1)) rfl rfl ?_
      refine z_icmp_neT rfl (by decide) (by decide) (by decide) ?_
      refine z_aload rfl rfl ?_
      refine z_getR (r := 83) rfl rfl (hRr _ rm_50_58 (by decide)) ?_
      refine z_iload rfl rfl ?_
      refine z_iald (v := (-4)) rfl rfl (by decide) (by decide) ((e83.trans (by rw [hso]; rfl))) ?_
      refine z_if_ltT rfl (by decide) (by decide) ?_
      refine z_iload rfl rfl ?_
      refine z_pushI (z := 0) rfl rfl ?_
      refine z_aload rfl rfl ?_
      refine z_getR (r := 84) rfl rfl (hRr _ rm_50_59 (by decide)) ?_
      refine z_iload rfl rfl ?_
      refine z_iald (v := J 48 3) rfl rfl (by decide) (by decide) (s7) ?_
      refine z_pushI (z := 1) rfl rfl ?_
      refine z_isub (e := (J 48 3) - 1) rfl rfl ?_
      refine z_callSi (As := [_, _, _]) (le := [some _, some _, some _]) rfl rfl (Nat.le_of_ble_eq_true rfl) (Nat.le_of_ble_eq_true rfl) rfl ?_
      refine z_iload rfl rfl ?_
      refine z_iload rfl rfl ?_
      refine z_icmp_ltF rfl (by omega) (by decide) (by omega) ?_
      refine z_iload rfl rfl ?_
      refine z_iload rfl rfl ?_
      refine z_icmp_gtF rfl (by omega) (by omega) (by omega) ?_
      refine z_pushI (z := 1) rfl rfl ?_
      refine z_goto rfl ?_
      refine z_bret rfl rfl (by decide) ?_
      show zW _ _ _ _ _ _ _ _ _ _
      refine z_if_eqF rfl (by decide) (by decide) ?_
      refine z_pushI (z := 0) rfl rfl ?_
      refine z_goto rfl ?_
      refine z_iret rfl rfl ?_
      show zW _ _ _ _ _ _ _ _ _ _
      refine z_istore rfl rfl ?_
      refine z_iload rfl rfl ?_
      refine z_if_geT rfl (by decide) (by decide) ?_
      refine z_pushI (z := (-2)) rfl rfl ?_
      refine z_aload rfl rfl ?_
      refine z_getR (r := 83) rfl rfl (hRr _ rm_50_58 (by decide)) ?_
      refine z_iload rfl rfl ?_
      refine z_iald (v := (-4)) rfl rfl (by decide) (by decide) ((e83.trans (by rw [hso]; rfl))) ?_
      refine z_isub (e := 2) rfl rfl ?_
      refine z_istore rfl rfl ?_
      refine z_aload rfl rfl ?_
      refine z_getR (r := 85) rfl rfl (hRr _ rm_50_60 (by decide)) ?_
      refine z_pushI (z := 60) rfl rfl ?_
      refine z_iload rfl rfl ?_
      refine z_imul (e := 300) rfl rfl ?_
      refine z_iload rfl rfl ?_
      refine z_iadd (e := 300 + i) rfl rfl ?_
      refine z_iload rfl rfl ?_
      refine z_if_neT rfl (by decide) (by decide) ?_
      refine z_iload rfl rfl ?_
      refine z_pushI (z := 1) rfl rfl ?_
      refine z_icmp_neT rfl (by decide) (by decide) (by decide) ?_
      refine z_iload rfl rfl ?_
      refine z_pushI (z := 2) rfl rfl ?_
      refine z_icmp_neF rfl (by decide) (by decide) (by decide) ?_
      refine z_lload rfl rfl ?_
      refine z_l2i rfl ?_
      refine z_topn (e := zn v) rfl ?_
      have q4 := zn_r v
      refine z_i2l rfl (by omega) ?_
      refine z_goto rfl ?_
      refine z_last (e := zn v) rfl rfl (by decide) (by omega) rfl ?_
      refine z_pushI (z := 1) rfl rfl ?_
      refine z_iret rfl rfl ?_
      refine ⟨?_, ?_⟩
      · first | rfl | exact congrArg (fun v => some (zi v)) (by omega) | (exfalso; omega)
      · have hk := (zK_r (k := (kL [] [])) (A := J))
        have hkm := (zK_x (a := 85) (x := 300 + i) (v := zn v) (zK_x (a := 49) (x := i) (v := zn v) (zK_r (k := (kL [49, 85] [])) (A := M)) rfl) rfl)
        exact ⟨hR, hG, RelY_k hk (by repeat' constructor) (fun p => by repeat' constructor) hY, RelD_k hk (by repeat' constructor) (fun p => by repeat' constructor) hD, RelP_k hk (by repeat' constructor) (fun p => by repeat' constructor) hP, RelC_k hk (by repeat' constructor) (fun p => by repeat' constructor) hC, RelA_k hk (by repeat' constructor) (fun p => by repeat' constructor) hAc, (RelS_one (J := J) (M := M) (c := 5) (fun t t1 t2 te => by have q : t = 0 ∨ t = 1 ∨ t = 2 ∨ t = 3 ∨ t = 4 ∨ t = 5 := (by omega); rcases q with rfl | rfl | rfl | rfl | rfl | rfl <;> first | exact absurd rfl te | exact ⟨fun j => rfl, rfl, rfl⟩) (fun t t1 t2 te => by have q : t = 0 ∨ t = 1 ∨ t = 2 ∨ t = 3 ∨ t = 4 ∨ t = 5 := (by omega); rcases q with rfl | rfl | rfl | rfl | rfl | rfl <;> first | exact absurd rfl te | exact ⟨fun j => rfl, fun j j1 j2 => (zU_x (by omega)).trans (zU_n (by decide))⟩) rfl (show RelS1 _ _ _ from ⟨(hS 5 (by decide) (by decide)).1, (hS 5 (by decide) (by decide)).2.1, s3, s4, (hS 5 (by decide) (by decide)).2.2.2.2.1, fun _ => ⟨s7.symm, fun k k1 k2 => by show (if k = i then zn v else M 49 k) = (if 300 + k = 300 + i then zn v else M 85 (300 + k)); by_cases e : k = i; rw [if_pos e, if_pos (by omega)]; rw [if_neg e, if_neg (by omega)]; exact s8 k k1 k2, (fun hq => absurd (Eq.trans (Eq.symm hq) hso) (by decide))⟩⟩) hS), RelT_k hk (by repeat' constructor) (fun p => by repeat' constructor) hTp, RelX_k hk (by repeat' constructor) (fun p => by repeat' constructor) hX, RelW_k hk ⟨rfl, rfl⟩ trivial hW⟩
theorem st_put_523 {X : Nat × (Nat → Int32)} {d : Nat} {J M : zA} {R : zR} {i v : Int} (hr : Rel X J M R) (hi : -2147483648 ≤ i ∧ i < 2147483648) (hv : -9223372036854775808 ≤ v ∧ v < 9223372036854775808) (hh : J 48 0 = 2) (hso : J 48 2 = 3) : zW X (d + 20) 138 0 (gEn 138 [(.ref 0), (zi 5), (zi i), (zl v)]) [] J M R (stP X (d + 20) 252 [(zi 5), (zi i), (zl v)]) := by
  have hr0 := hr
  obtain ⟨hR, hG, hY, hD, hP, hC, hAc, hS, hTp, hX, hW⟩ := hr0
  have hRr : zRoR R := zRoR_of hR
  have e83 : J 83 5 = -2 - J 48 2 := (hS 5 (by decide) (by decide)).1.symm.trans (cH_2 hh)
  have s3 : 0 ≤ J 48 2 ∧ J 48 2 ≤ 4 := (hS 5 (by decide) (by decide)).2.2.1
  have s4 : 0 ≤ J 48 3 ∧ J 48 3 ≤ 60 := (hS 5 (by decide) (by decide)).2.2.2.1
  have s6 := (hS 5 (by decide) (by decide)).2.2.2.2.2 hh
  have s7 : J 84 5 = J 48 3 := s6.1.symm
  have s8 : ∀ i, 0 ≤ i → i < J 48 3 → M 49 i = M 85 (300 + i) := s6.2.1
  show zW _ _ _ _ [some (.ref 0), some (zi 5), some (zi i), some (zl v), none, none] _ _ _ _ _
  refine z_iload rfl rfl ?_
  refine z_callSi (As := [_]) (le := [some _]) rfl rfl (Nat.le_of_ble_eq_true rfl) (Nat.le_of_ble_eq_true rfl) rfl ?_
  refine z_iload rfl rfl ?_
  refine z_if_ltF rfl (by decide) (by decide) ?_
  refine z_iload rfl rfl ?_
  refine z_pushI (z := 6) rfl rfl ?_
  refine z_icmp_geF rfl (by decide) (by decide) (by decide) ?_
  refine z_pushI (z := 1) rfl rfl ?_
  refine z_goto rfl ?_
  refine z_bret rfl rfl (by decide) ?_
  show zW _ _ _ _ _ _ _ _ _ _
  refine z_if_neT rfl (by decide) (by decide) ?_
  refine z_aload rfl rfl ?_
  refine z_getR (r := 37) rfl rfl (hR _ rm_0_11) ?_
  refine z_iload rfl rfl ?_
  refine z_aald (r := 48) rfl rfl (by decide) (by decide) (hR _ rm_37_5) ?_
  refine z_iload rfl rfl ?_
  refine z_callVi (As := [_]) (le := [some _, some _]) rfl rfl rfl (Nat.le_of_ble_eq_true rfl) (Nat.le_of_ble_eq_true rfl) rfl ?_
  refine z_aload rfl rfl ?_
  refine z_getI (v := 2) rfl rfl (hh) ?_
  refine z_if_neT rfl (by decide) (by decide) ?_
  refine z_aload rfl rfl ?_
  refine z_getI (v := 2) rfl rfl (hh) ?_
  refine z_pushI (z := 2) rfl rfl ?_
  refine z_icmp_eqT rfl (by decide) (by decide) (by decide) ?_
  refine z_iload rfl rfl ?_
  refine z_if_lt rfl (by omega) (fun h1 => ?_) (fun h1 => ?_)
  · refine z_pushI (z := (-13)) rfl rfl ?_
    refine z_iret rfl rfl ?_
    show zW _ _ _ _ _ _ _ _ _ _
    refine z_istore rfl rfl ?_
    refine z_iload rfl rfl ?_
    refine z_if_geF rfl (by decide) (by decide) ?_
    refine z_iload rfl rfl ?_
    refine z_iret rfl rfl ?_
    refine ⟨_, rfl, ?_⟩
    show zW _ _ _ _ [some (.ref 50), some (zi 5), some (zi i), some (zl v), none, none, none] _ _ _ _ _
    refine z_aload rfl rfl ?_
    refine z_iload rfl rfl ?_
    refine z_iload rfl rfl ?_
    refine z_callVi (As := [_, _]) (le := [some _, some _, some _]) rfl rfl rfl (Nat.le_of_ble_eq_true rfl) (Nat.le_of_ble_eq_true rfl) rfl ?_
    refine z_iload rfl rfl ?_
    refine z_callSi (As := [_]) (le := [some _]) rfl rfl (Nat.le_of_ble_eq_true rfl) (Nat.le_of_ble_eq_true rfl) rfl ?_
    refine z_iload rfl rfl ?_
    refine z_pushI (z := 0) rfl rfl ?_
    refine z_pushI (z := 5) rfl rfl ?_
    refine z_callSi (As := [_, _, _]) (le := [some _, some _, some _]) rfl rfl (Nat.le_of_ble_eq_true rfl) (Nat.le_of_ble_eq_true rfl) rfl ?_
    refine z_iload rfl rfl ?_
    refine z_iload rfl rfl ?_
    refine z_icmp_ltF rfl (by decide) (by decide) (by decide) ?_
    refine z_iload rfl rfl ?_
    refine z_iload rfl rfl ?_
    refine z_icmp_gtF rfl (by decide) (by decide) (by decide) ?_
    refine z_pushI (z := 1) rfl rfl ?_
    refine z_goto rfl ?_
    refine z_bret rfl rfl (by decide) ?_
    show zW _ _ _ _ _ _ _ _ _ _
    refine z_bret rfl rfl (by decide) ?_
    show zW _ _ _ _ _ _ _ _ _ _
    refine z_if_neT rfl (by decide) (by decide) ?_
    refine z_aload rfl rfl ?_
    refine z_getR (r := 83) rfl rfl (hRr _ rm_50_58 (by decide)) ?_
    refine z_iload rfl rfl ?_
    refine z_iald (v := (-5)) rfl rfl (by decide) (by decide) ((e83.trans (by rw [hso]; rfl))) ?_
    refine z_pushI (z := (-1)) rfl rfl ?_
    refine z_icmp_neT rfl (by decide) (by decide) (by decide) ?_
    refine z_aload rfl rfl ?_
    refine z_getR (r := 83) rfl rfl (hRr _ rm_50_58 (by decide)) ?_
    refine z_iload rfl rfl ?_
    refine z_iald (v := (-5)) rfl rfl (by decide) (by decide) ((e83.trans (by rw [hso]; rfl))) ?_
    refine z_if_ltT rfl (by decide) (by decide) ?_
    refine z_iload rfl rfl ?_
    refine z_pushI (z := 0) rfl rfl ?_
    refine z_aload rfl rfl ?_
    refine z_getR (r := 84) rfl rfl (hRr _ rm_50_59 (by decide)) ?_
    refine z_iload rfl rfl ?_
    refine z_iald (v := J 48 3) rfl rfl (by decide) (by decide) (s7) ?_
    refine z_pushI (z := 1) rfl rfl ?_
    refine z_isub (e := (J 48 3) - 1) rfl rfl ?_
    refine z_callSi (As := [_, _, _]) (le := [some _, some _, some _]) rfl rfl (Nat.le_of_ble_eq_true rfl) (Nat.le_of_ble_eq_true rfl) rfl ?_
    refine z_iload rfl rfl ?_
    refine z_iload rfl rfl ?_
    refine z_icmp_ltT rfl (by omega) (by decide) (by omega) ?_
    refine z_pushI (z := 0) rfl rfl ?_
    refine z_bret rfl rfl (by decide) ?_
    show zW _ _ _ _ _ _ _ _ _ _
    refine z_if_eqT rfl (by decide) (by decide) ?_
    refine z_pushI (z := (-13)) rfl rfl ?_
    refine z_iret rfl rfl ?_
    show zW _ _ _ _ _ _ _ _ _ _
    refine z_istore rfl rfl ?_
    refine z_iload rfl rfl ?_
    refine z_if_geF rfl (by decide) (by decide) ?_
    refine z_iload rfl rfl ?_
    refine z_iret rfl rfl ?_
    refine ⟨?_, ?_⟩
    · first | rfl | exact congrArg (fun v => some (zi v)) (by omega) | (exfalso; omega)
    · exact hr
  · refine z_iload rfl rfl ?_
    refine z_aload rfl rfl ?_
    refine z_getI (v := J 48 3) rfl rfl (rfl) ?_
    refine z_icmp_ge rfl (by omega) (by omega) (fun h2 => ?_) (fun h2 => ?_)
    · refine z_pushI (z := (-13)) rfl rfl ?_
      refine z_iret rfl rfl ?_
      show zW _ _ _ _ _ _ _ _ _ _
      refine z_istore rfl rfl ?_
      refine z_iload rfl rfl ?_
      refine z_if_geF rfl (by decide) (by decide) ?_
      refine z_iload rfl rfl ?_
      refine z_iret rfl rfl ?_
      refine ⟨_, rfl, ?_⟩
      show zW _ _ _ _ [some (.ref 50), some (zi 5), some (zi i), some (zl v), none, none, none] _ _ _ _ _
      refine z_aload rfl rfl ?_
      refine z_iload rfl rfl ?_
      refine z_iload rfl rfl ?_
      refine z_callVi (As := [_, _]) (le := [some _, some _, some _]) rfl rfl rfl (Nat.le_of_ble_eq_true rfl) (Nat.le_of_ble_eq_true rfl) rfl ?_
      refine z_iload rfl rfl ?_
      refine z_callSi (As := [_]) (le := [some _]) rfl rfl (Nat.le_of_ble_eq_true rfl) (Nat.le_of_ble_eq_true rfl) rfl ?_
      refine z_iload rfl rfl ?_
      refine z_pushI (z := 0) rfl rfl ?_
      refine z_pushI (z := 5) rfl rfl ?_
      refine z_callSi (As := [_, _, _]) (le := [some _, some _, some _]) rfl rfl (Nat.le_of_ble_eq_true rfl) (Nat.le_of_ble_eq_true rfl) rfl ?_
      refine z_iload rfl rfl ?_
      refine z_iload rfl rfl ?_
      refine z_icmp_ltF rfl (by decide) (by decide) (by decide) ?_
      refine z_iload rfl rfl ?_
      refine z_iload rfl rfl ?_
      refine z_icmp_gtF rfl (by decide) (by decide) (by decide) ?_
      refine z_pushI (z := 1) rfl rfl ?_
      refine z_goto rfl ?_
      refine z_bret rfl rfl (by decide) ?_
      show zW _ _ _ _ _ _ _ _ _ _
      refine z_bret rfl rfl (by decide) ?_
      show zW _ _ _ _ _ _ _ _ _ _
      refine z_if_neT rfl (by decide) (by decide) ?_
      refine z_aload rfl rfl ?_
      refine z_getR (r := 83) rfl rfl (hRr _ rm_50_58 (by decide)) ?_
      refine z_iload rfl rfl ?_
      refine z_iald (v := (-5)) rfl rfl (by decide) (by decide) ((e83.trans (by rw [hso]; rfl))) ?_
      refine z_pushI (z := (-1)) rfl rfl ?_
      refine z_icmp_neT rfl (by decide) (by decide) (by decide) ?_
      refine z_aload rfl rfl ?_
      refine z_getR (r := 83) rfl rfl (hRr _ rm_50_58 (by decide)) ?_
      refine z_iload rfl rfl ?_
      refine z_iald (v := (-5)) rfl rfl (by decide) (by decide) ((e83.trans (by rw [hso]; rfl))) ?_
      refine z_if_ltT rfl (by decide) (by decide) ?_
      refine z_iload rfl rfl ?_
      refine z_pushI (z := 0) rfl rfl ?_
      refine z_aload rfl rfl ?_
      refine z_getR (r := 84) rfl rfl (hRr _ rm_50_59 (by decide)) ?_
      refine z_iload rfl rfl ?_
      refine z_iald (v := J 48 3) rfl rfl (by decide) (by decide) (s7) ?_
      refine z_pushI (z := 1) rfl rfl ?_
      refine z_isub (e := (J 48 3) - 1) rfl rfl ?_
      refine z_callSi (As := [_, _, _]) (le := [some _, some _, some _]) rfl rfl (Nat.le_of_ble_eq_true rfl) (Nat.le_of_ble_eq_true rfl) rfl ?_
      refine z_iload rfl rfl ?_
      refine z_iload rfl rfl ?_
      refine z_icmp_ltF rfl (by omega) (by decide) (by omega) ?_
      refine z_iload rfl rfl ?_
      refine z_iload rfl rfl ?_
      refine z_icmp_gtT rfl (by omega) (by omega) (by omega) ?_
      refine z_pushI (z := 0) rfl rfl ?_
      refine z_bret rfl rfl (by decide) ?_
      show zW _ _ _ _ _ _ _ _ _ _
      refine z_if_eqT rfl (by decide) (by decide) ?_
      refine z_pushI (z := (-13)) rfl rfl ?_
      refine z_iret rfl rfl ?_
      show zW _ _ _ _ _ _ _ _ _ _
      refine z_istore rfl rfl ?_
      refine z_iload rfl rfl ?_
      refine z_if_geF rfl (by decide) (by decide) ?_
      refine z_iload rfl rfl ?_
      refine z_iret rfl rfl ?_
      refine ⟨?_, ?_⟩
      · first | rfl | exact congrArg (fun v => some (zi v)) (by omega) | (exfalso; omega)
      · exact hr
    · refine z_pushI (z := 0) rfl rfl ?_
      refine z_goto rfl ?_
      refine z_iret rfl rfl ?_
      show zW _ _ _ _ _ _ _ _ _ _
      refine z_istore rfl rfl ?_
      refine z_iload rfl rfl ?_
      refine z_if_geT rfl (by decide) (by decide) ?_
      refine z_aload rfl rfl ?_
      refine z_getR (r := 37) rfl rfl (hR _ rm_0_11) ?_
      refine z_iload rfl rfl ?_
      refine z_aald (r := 48) rfl rfl (by decide) (by decide) (hR _ rm_37_5) ?_
      refine z_iload rfl rfl ?_
      refine z_lload rfl rfl ?_
      refine z_callVi (As := [_, _]) (le := [some _, some _, some _, none]) rfl rfl rfl (Nat.le_of_ble_eq_true rfl) (Nat.le_of_ble_eq_true rfl) rfl ?_
      refine z_iload rfl rfl ?_
      refine z_if_ltF rfl (by omega) (by omega) ?_
      refine z_iload rfl rfl ?_
      refine z_aload rfl rfl ?_
      refine z_getI (v := J 48 3) rfl rfl (rfl) ?_
      refine z_icmp_geF rfl (by omega) (by omega) (by omega) ?_
      refine z_aload rfl rfl ?_
      refine z_getR (r := 49) rfl rfl (hR _ rm_48_4) ?_
      refine z_iload rfl rfl ?_
      refine z_aload rfl rfl ?_
      refine z_lload rfl rfl ?_
      refine z_callVi (As := [_]) (le := [some _, some _, none]) rfl rfl rfl (Nat.le_of_ble_eq_true rfl) (Nat.le_of_ble_eq_true rfl) rfl ?_
      refine z_aload rfl rfl ?_
      refine z_getI (v := 3) rfl rfl (hso) ?_
      refine z_swI (tg := 66) rfl (by decide) (T := [((0 : Int), 40), ((1 : Int), 45), ((2 : Int), 50), ((3 : Int), 66), ((4 : Int), 54)]) rfl (by decide) ?_
      refine z_lload rfl rfl ?_
      refine z_lret rfl rfl ?_
      show zW _ _ _ _ _ _ _ _ _ _
      refine z_last (e := v) rfl rfl (by decide) (by omega) rfl ?_
      refine z_vret rfl rfl ?_
      show zW _ _ _ _ _ _ _ _ _ _
      refine z_pushI (z := 1) rfl rfl ?_
      refine z_iret rfl rfl ?_
      refine ⟨_, rfl, ?_⟩
      show zW _ _ _ _ [some (.ref 50), some (zi 5), some (zi i), some (zl v), none, none, none] _ _ _ _ _
      refine z_aload rfl rfl ?_
      refine z_iload rfl rfl ?_
      refine z_iload rfl rfl ?_
      refine z_callVi (As := [_, _]) (le := [some _, some _, some _]) rfl rfl rfl (Nat.le_of_ble_eq_true rfl) (Nat.le_of_ble_eq_true rfl) rfl ?_
      refine z_iload rfl rfl ?_
      refine z_callSi (As := [_]) (le := [some _]) rfl rfl (Nat.le_of_ble_eq_true rfl) (Nat.le_of_ble_eq_true rfl) rfl ?_
      refine z_iload rfl rfl ?_
      refine z_pushI (z := 0) rfl rfl ?_
      refine z_pushI (z := 5) rfl rfl ?_
      refine z_callSi (As := [_, _, _]) (le := [some _, some _, some _]) rfl rfl (Nat.le_of_ble_eq_true rfl) (Nat.le_of_ble_eq_true rfl) rfl ?_
      refine z_iload rfl rfl ?_
      refine z_iload rfl rfl ?_
      refine z_icmp_ltF rfl (by decide) (by decide) (by decide) ?_
      refine z_iload rfl rfl ?_
      refine z_iload rfl rfl ?_
      refine z_icmp_gtF rfl (by decide) (by decide) (by decide) ?_
      refine z_pushI (z := 1) rfl rfl ?_
      refine z_goto rfl ?_
      refine z_bret rfl rfl (by decide) ?_
      show zW _ _ _ _ _ _ _ _ _ _
      refine z_bret rfl rfl (by decide) ?_
      show zW _ _ _ _ _ _ _ _ _ _
      refine z_if_neT rfl (by decide) (by decide) ?_
      refine z_aload rfl rfl ?_
      refine z_getR (r := 83) rfl rfl (hRr _ rm_50_58 (by decide)) ?_
      refine z_iload rfl rfl ?_
      refine z_iald (v := (-5)) rfl rfl (by decide) (by decide) ((e83.trans (by rw [hso]; rfl))) ?_
      refine z_pushI (z := (-1)) rfl rfl ?_
      refine z_icmp_neT rfl (by decide) (by decide) (by decide) ?_
      refine z_aload rfl rfl ?_
      refine z_getR (r := 83) rfl rfl (hRr _ rm_50_58 (by decide)) ?_
      refine z_iload rfl rfl ?_
      refine z_iald (v := (-5)) rfl rfl (by decide) (by decide) ((e83.trans (by rw [hso]; rfl))) ?_
      refine z_if_ltT rfl (by decide) (by decide) ?_
      refine z_iload rfl rfl ?_
      refine z_pushI (z := 0) rfl rfl ?_
      refine z_aload rfl rfl ?_
      refine z_getR (r := 84) rfl rfl (hRr _ rm_50_59 (by decide)) ?_
      refine z_iload rfl rfl ?_
      refine z_iald (v := J 48 3) rfl rfl (by decide) (by decide) (s7) ?_
      refine z_pushI (z := 1) rfl rfl ?_
      refine z_isub (e := (J 48 3) - 1) rfl rfl ?_
      refine z_callSi (As := [_, _, _]) (le := [some _, some _, some _]) rfl rfl (Nat.le_of_ble_eq_true rfl) (Nat.le_of_ble_eq_true rfl) rfl ?_
      refine z_iload rfl rfl ?_
      refine z_iload rfl rfl ?_
      refine z_icmp_ltF rfl (by omega) (by decide) (by omega) ?_
      refine z_iload rfl rfl ?_
      refine z_iload rfl rfl ?_
      refine z_icmp_gtF rfl (by omega) (by omega) (by omega) ?_
      refine z_pushI (z := 1) rfl rfl ?_
      refine z_goto rfl ?_
      refine z_bret rfl rfl (by decide) ?_
      show zW _ _ _ _ _ _ _ _ _ _
      refine z_if_eqF rfl (by decide) (by decide) ?_
      refine z_pushI (z := 0) rfl rfl ?_
      refine z_goto rfl ?_
      refine z_iret rfl rfl ?_
      show zW _ _ _ _ _ _ _ _ _ _
      refine z_istore rfl rfl ?_
      refine z_iload rfl rfl ?_
      refine z_if_geT rfl (by decide) (by decide) ?_
      refine z_pushI (z := (-2)) rfl rfl ?_
      refine z_aload rfl rfl ?_
      refine z_getR (r := 83) rfl rfl (hRr _ rm_50_58 (by decide)) ?_
      refine z_iload rfl rfl ?_
      refine z_iald (v := (-5)) rfl rfl (by decide) (by decide) ((e83.trans (by rw [hso]; rfl))) ?_
      refine z_isub (e := 3) rfl rfl ?_
      refine z_istore rfl rfl ?_
      refine z_aload rfl rfl ?_
      refine z_getR (r := 85) rfl rfl (hRr _ rm_50_60 (by decide)) ?_
      refine z_pushI (z := 60) rfl rfl ?_
      refine z_iload rfl rfl ?_
      refine z_imul (e := 300) rfl rfl ?_
      refine z_iload rfl rfl ?_
      refine z_iadd (e := 300 + i) rfl rfl ?_
      refine z_iload rfl rfl ?_
      refine z_if_neT rfl (by decide) (by decide) ?_
      refine z_iload rfl rfl ?_
      refine z_pushI (z := 1) rfl rfl ?_
      refine z_icmp_neT rfl (by decide) (by decide) (by decide) ?_
      refine z_iload rfl rfl ?_
      refine z_pushI (z := 2) rfl rfl ?_
      refine z_icmp_neT rfl (by decide) (by decide) (by decide) ?_
      refine z_iload rfl rfl ?_
      refine z_pushI (z := 3) rfl rfl ?_
      refine z_icmp_neF rfl (by decide) (by decide) (by decide) ?_
      refine z_lload rfl rfl ?_
      refine z_goto rfl ?_
      refine z_last (e := v) rfl rfl (by decide) (by omega) rfl ?_
      refine z_pushI (z := 1) rfl rfl ?_
      refine z_iret rfl rfl ?_
      refine ⟨?_, ?_⟩
      · first | rfl | exact congrArg (fun v => some (zi v)) (by omega) | (exfalso; omega)
      · have hk := (zK_r (k := (kL [] [])) (A := J))
        have hkm := (zK_x (a := 85) (x := 300 + i) (v := v) (zK_x (a := 49) (x := i) (v := v) (zK_r (k := (kL [49, 85] [])) (A := M)) rfl) rfl)
        exact ⟨hR, hG, RelY_k hk (by repeat' constructor) (fun p => by repeat' constructor) hY, RelD_k hk (by repeat' constructor) (fun p => by repeat' constructor) hD, RelP_k hk (by repeat' constructor) (fun p => by repeat' constructor) hP, RelC_k hk (by repeat' constructor) (fun p => by repeat' constructor) hC, RelA_k hk (by repeat' constructor) (fun p => by repeat' constructor) hAc, (RelS_one (J := J) (M := M) (c := 5) (fun t t1 t2 te => by have q : t = 0 ∨ t = 1 ∨ t = 2 ∨ t = 3 ∨ t = 4 ∨ t = 5 := (by omega); rcases q with rfl | rfl | rfl | rfl | rfl | rfl <;> first | exact absurd rfl te | exact ⟨fun j => rfl, rfl, rfl⟩) (fun t t1 t2 te => by have q : t = 0 ∨ t = 1 ∨ t = 2 ∨ t = 3 ∨ t = 4 ∨ t = 5 := (by omega); rcases q with rfl | rfl | rfl | rfl | rfl | rfl <;> first | exact absurd rfl te | exact ⟨fun j => rfl, fun j j1 j2 => (zU_x (by omega)).trans (zU_n (by decide))⟩) rfl (show RelS1 _ _ _ from ⟨(hS 5 (by decide) (by decide)).1, (hS 5 (by decide) (by decide)).2.1, s3, s4, (hS 5 (by decide) (by decide)).2.2.2.2.1, fun _ => ⟨s7.symm, fun k k1 k2 => by show (if k = i then v else M 49 k) = (if 300 + k = 300 + i then v else M 85 (300 + k)); by_cases e : k = i; rw [if_pos e, if_pos (by omega)]; rw [if_neg e, if_neg (by omega)]; exact s8 k k1 k2, (fun hq => absurd (Eq.trans (Eq.symm hq) hso) (by decide))⟩⟩) hS), RelT_k hk (by repeat' constructor) (fun p => by repeat' constructor) hTp, RelX_k hk (by repeat' constructor) (fun p => by repeat' constructor) hX, RelW_k hk ⟨rfl, rfl⟩ trivial hW⟩
theorem st_put_524 {X : Nat × (Nat → Int32)} {d : Nat} {J M : zA} {R : zR} {i v : Int} (hr : Rel X J M R) (hi : -2147483648 ≤ i ∧ i < 2147483648) (hv : -9223372036854775808 ≤ v ∧ v < 9223372036854775808) (hh : J 48 0 = 2) (hso : J 48 2 = 4) : zW X (d + 20) 138 0 (gEn 138 [(.ref 0), (zi 5), (zi i), (zl v)]) [] J M R (stP X (d + 20) 252 [(zi 5), (zi i), (zl v)]) := by
  have hr0 := hr
  obtain ⟨hR, hG, hY, hD, hP, hC, hAc, hS, hTp, hX, hW⟩ := hr0
  have hRr : zRoR R := zRoR_of hR
  have e83 : J 83 5 = -2 - J 48 2 := (hS 5 (by decide) (by decide)).1.symm.trans (cH_2 hh)
  have s3 : 0 ≤ J 48 2 ∧ J 48 2 ≤ 4 := (hS 5 (by decide) (by decide)).2.2.1
  have s4 : 0 ≤ J 48 3 ∧ J 48 3 ≤ 60 := (hS 5 (by decide) (by decide)).2.2.2.1
  have s6 := (hS 5 (by decide) (by decide)).2.2.2.2.2 hh
  have s7 : J 84 5 = J 48 3 := s6.1.symm
  have s8 : ∀ i, 0 ≤ i → i < J 48 3 → M 49 i = M 85 (300 + i) := s6.2.1
  show zW _ _ _ _ [some (.ref 0), some (zi 5), some (zi i), some (zl v), none, none] _ _ _ _ _
  refine z_iload rfl rfl ?_
  refine z_callSi (As := [_]) (le := [some _]) rfl rfl (Nat.le_of_ble_eq_true rfl) (Nat.le_of_ble_eq_true rfl) rfl ?_
  refine z_iload rfl rfl ?_
  refine z_if_ltF rfl (by decide) (by decide) ?_
  refine z_iload rfl rfl ?_
  refine z_pushI (z := 6) rfl rfl ?_
  refine z_icmp_geF rfl (by decide) (by decide) (by decide) ?_
  refine z_pushI (z := 1) rfl rfl ?_
  refine z_goto rfl ?_
  refine z_bret rfl rfl (by decide) ?_
  show zW _ _ _ _ _ _ _ _ _ _
  refine z_if_neT rfl (by decide) (by decide) ?_
  refine z_aload rfl rfl ?_
  refine z_getR (r := 37) rfl rfl (hR _ rm_0_11) ?_
  refine z_iload rfl rfl ?_
  refine z_aald (r := 48) rfl rfl (by decide) (by decide) (hR _ rm_37_5) ?_
  refine z_iload rfl rfl ?_
  refine z_callVi (As := [_]) (le := [some _, some _]) rfl rfl rfl (Nat.le_of_ble_eq_true rfl) (Nat.le_of_ble_eq_true rfl) rfl ?_
  refine z_aload rfl rfl ?_
  refine z_getI (v := 2) rfl rfl (hh) ?_
  refine z_if_neT rfl (by decide) (by decide) ?_
  refine z_aload rfl rfl ?_
  refine z_getI (v := 2) rfl rfl (hh) ?_
  refine z_pushI (z := 2) rfl rfl ?_
  refine z_icmp_eqT rfl (by decide) (by decide) (by decide) ?_
  refine z_iload rfl rfl ?_
  refine z_if_lt rfl (by omega) (fun h1 => ?_) (fun h1 => ?_)
  · refine z_pushI (z := (-13)) rfl rfl ?_
    refine z_iret rfl rfl ?_
    show zW _ _ _ _ _ _ _ _ _ _
    refine z_istore rfl rfl ?_
    refine z_iload rfl rfl ?_
    refine z_if_geF rfl (by decide) (by decide) ?_
    refine z_iload rfl rfl ?_
    refine z_iret rfl rfl ?_
    refine ⟨_, rfl, ?_⟩
    show zW _ _ _ _ [some (.ref 50), some (zi 5), some (zi i), some (zl v), none, none, none] _ _ _ _ _
    refine z_aload rfl rfl ?_
    refine z_iload rfl rfl ?_
    refine z_iload rfl rfl ?_
    refine z_callVi (As := [_, _]) (le := [some _, some _, some _]) rfl rfl rfl (Nat.le_of_ble_eq_true rfl) (Nat.le_of_ble_eq_true rfl) rfl ?_
    refine z_iload rfl rfl ?_
    refine z_callSi (As := [_]) (le := [some _]) rfl rfl (Nat.le_of_ble_eq_true rfl) (Nat.le_of_ble_eq_true rfl) rfl ?_
    refine z_iload rfl rfl ?_
    refine z_pushI (z := 0) rfl rfl ?_
    refine z_pushI (z := 5) rfl rfl ?_
    refine z_callSi (As := [_, _, _]) (le := [some _, some _, some _]) rfl rfl (Nat.le_of_ble_eq_true rfl) (Nat.le_of_ble_eq_true rfl) rfl ?_
    refine z_iload rfl rfl ?_
    refine z_iload rfl rfl ?_
    refine z_icmp_ltF rfl (by decide) (by decide) (by decide) ?_
    refine z_iload rfl rfl ?_
    refine z_iload rfl rfl ?_
    refine z_icmp_gtF rfl (by decide) (by decide) (by decide) ?_
    refine z_pushI (z := 1) rfl rfl ?_
    refine z_goto rfl ?_
    refine z_bret rfl rfl (by decide) ?_
    show zW _ _ _ _ _ _ _ _ _ _
    refine z_bret rfl rfl (by decide) ?_
    show zW _ _ _ _ _ _ _ _ _ _
    refine z_if_neT rfl (by decide) (by decide) ?_
    refine z_aload rfl rfl ?_
    refine z_getR (r := 83) rfl rfl (hRr _ rm_50_58 (by decide)) ?_
    refine z_iload rfl rfl ?_
    refine z_iald (v := (-6)) rfl rfl (by decide) (by decide) ((e83.trans (by rw [hso]; rfl))) ?_
    refine z_pushI (z := (-1)) rfl rfl ?_
    refine z_icmp_neT rfl (by decide) (by decide) (by decide) ?_
    refine z_aload rfl rfl ?_
    refine z_getR (r := 83) rfl rfl (hRr _ rm_50_58 (by decide)) ?_
    refine z_iload rfl rfl ?_
    refine z_iald (v := (-6)) rfl rfl (by decide) (by decide) ((e83.trans (by rw [hso]; rfl))) ?_
    refine z_if_ltT rfl (by decide) (by decide) ?_
    refine z_iload rfl rfl ?_
    refine z_pushI (z := 0) rfl rfl ?_
    refine z_aload rfl rfl ?_
    refine z_getR (r := 84) rfl rfl (hRr _ rm_50_59 (by decide)) ?_
    refine z_iload rfl rfl ?_
    refine z_iald (v := J 48 3) rfl rfl (by decide) (by decide) (s7) ?_
    refine z_pushI (z := 1) rfl rfl ?_
    refine z_isub (e := (J 48 3) - 1) rfl rfl ?_
    refine z_callSi (As := [_, _, _]) (le := [some _, some _, some _]) rfl rfl (Nat.le_of_ble_eq_true rfl) (Nat.le_of_ble_eq_true rfl) rfl ?_
    refine z_iload rfl rfl ?_
    refine z_iload rfl rfl ?_
    refine z_icmp_ltT rfl (by omega) (by decide) (by omega) ?_
    refine z_pushI (z := 0) rfl rfl ?_
    refine z_bret rfl rfl (by decide) ?_
    show zW _ _ _ _ _ _ _ _ _ _
    refine z_if_eqT rfl (by decide) (by decide) ?_
    refine z_pushI (z := (-13)) rfl rfl ?_
    refine z_iret rfl rfl ?_
    show zW _ _ _ _ _ _ _ _ _ _
    refine z_istore rfl rfl ?_
    refine z_iload rfl rfl ?_
    refine z_if_geF rfl (by decide) (by decide) ?_
    refine z_iload rfl rfl ?_
    refine z_iret rfl rfl ?_
    refine ⟨?_, ?_⟩
    · first | rfl | exact congrArg (fun v => some (zi v)) (by omega) | (exfalso; omega)
    · exact hr
  · refine z_iload rfl rfl ?_
    refine z_aload rfl rfl ?_
    refine z_getI (v := J 48 3) rfl rfl (rfl) ?_
    refine z_icmp_ge rfl (by omega) (by omega) (fun h2 => ?_) (fun h2 => ?_)
    · refine z_pushI (z := (-13)) rfl rfl ?_
      refine z_iret rfl rfl ?_
      show zW _ _ _ _ _ _ _ _ _ _
      refine z_istore rfl rfl ?_
      refine z_iload rfl rfl ?_
      refine z_if_geF rfl (by decide) (by decide) ?_
      refine z_iload rfl rfl ?_
      refine z_iret rfl rfl ?_
      refine ⟨_, rfl, ?_⟩
      show zW _ _ _ _ [some (.ref 50), some (zi 5), some (zi i), some (zl v), none, none, none] _ _ _ _ _
      refine z_aload rfl rfl ?_
      refine z_iload rfl rfl ?_
      refine z_iload rfl rfl ?_
      refine z_callVi (As := [_, _]) (le := [some _, some _, some _]) rfl rfl rfl (Nat.le_of_ble_eq_true rfl) (Nat.le_of_ble_eq_true rfl) rfl ?_
      refine z_iload rfl rfl ?_
      refine z_callSi (As := [_]) (le := [some _]) rfl rfl (Nat.le_of_ble_eq_true rfl) (Nat.le_of_ble_eq_true rfl) rfl ?_
      refine z_iload rfl rfl ?_
      refine z_pushI (z := 0) rfl rfl ?_
      refine z_pushI (z := 5) rfl rfl ?_
      refine z_callSi (As := [_, _, _]) (le := [some _, some _, some _]) rfl rfl (Nat.le_of_ble_eq_true rfl) (Nat.le_of_ble_eq_true rfl) rfl ?_
      refine z_iload rfl rfl ?_
      refine z_iload rfl rfl ?_
      refine z_icmp_ltF rfl (by decide) (by decide) (by decide) ?_
      refine z_iload rfl rfl ?_
      refine z_iload rfl rfl ?_
      refine z_icmp_gtF rfl (by decide) (by decide) (by decide) ?_
      refine z_pushI (z := 1) rfl rfl ?_
      refine z_goto rfl ?_
      refine z_bret rfl rfl (by decide) ?_
      show zW _ _ _ _ _ _ _ _ _ _
      refine z_bret rfl rfl (by decide) ?_
      show zW _ _ _ _ _ _ _ _ _ _
      refine z_if_neT rfl (by decide) (by decide) ?_
      refine z_aload rfl rfl ?_
      refine z_getR (r := 83) rfl rfl (hRr _ rm_50_58 (by decide)) ?_
      refine z_iload rfl rfl ?_
      refine z_iald (v := (-6)) rfl rfl (by decide) (by decide) ((e83.trans (by rw [hso]; rfl))) ?_
      refine z_pushI (z := (-1)) rfl rfl ?_
      refine z_icmp_neT rfl (by decide) (by decide) (by decide) ?_
      refine z_aload rfl rfl ?_
      refine z_getR (r := 83) rfl rfl (hRr _ rm_50_58 (by decide)) ?_
      refine z_iload rfl rfl ?_
      refine z_iald (v := (-6)) rfl rfl (by decide) (by decide) ((e83.trans (by rw [hso]; rfl))) ?_
      refine z_if_ltT rfl (by decide) (by decide) ?_
      refine z_iload rfl rfl ?_
      refine z_pushI (z := 0) rfl rfl ?_
      refine z_aload rfl rfl ?_
      refine z_getR (r := 84) rfl rfl (hRr _ rm_50_59 (by decide)) ?_
      refine z_iload rfl rfl ?_
      refine z_iald (v := J 48 3) rfl rfl (by decide) (by decide) (s7) ?_
      refine z_pushI (z := 1) rfl rfl ?_
      refine z_isub (e := (J 48 3) - 1) rfl rfl ?_
      refine z_callSi (As := [_, _, _]) (le := [some _, some _, some _]) rfl rfl (Nat.le_of_ble_eq_true rfl) (Nat.le_of_ble_eq_true rfl) rfl ?_
      refine z_iload rfl rfl ?_
      refine z_iload rfl rfl ?_
      refine z_icmp_ltF rfl (by omega) (by decide) (by omega) ?_
      refine z_iload rfl rfl ?_
      refine z_iload rfl rfl ?_
      refine z_icmp_gtT rfl (by omega) (by omega) (by omega) ?_
      refine z_pushI (z := 0) rfl rfl ?_
      refine z_bret rfl rfl (by decide) ?_
      show zW _ _ _ _ _ _ _ _ _ _
      refine z_if_eqT rfl (by decide) (by decide) ?_
      refine z_pushI (z := (-13)) rfl rfl ?_
      refine z_iret rfl rfl ?_
      show zW _ _ _ _ _ _ _ _ _ _
      refine z_istore rfl rfl ?_
      refine z_iload rfl rfl ?_
      refine z_if_geF rfl (by decide) (by decide) ?_
      refine z_iload rfl rfl ?_
      refine z_iret rfl rfl ?_
      refine ⟨?_, ?_⟩
      · first | rfl | exact congrArg (fun v => some (zi v)) (by omega) | (exfalso; omega)
      · exact hr
    · refine z_pushI (z := 0) rfl rfl ?_
      refine z_goto rfl ?_
      refine z_iret rfl rfl ?_
      show zW _ _ _ _ _ _ _ _ _ _
      refine z_istore rfl rfl ?_
      refine z_iload rfl rfl ?_
      refine z_if_geT rfl (by decide) (by decide) ?_
      refine z_aload rfl rfl ?_
      refine z_getR (r := 37) rfl rfl (hR _ rm_0_11) ?_
      refine z_iload rfl rfl ?_
      refine z_aald (r := 48) rfl rfl (by decide) (by decide) (hR _ rm_37_5) ?_
      refine z_iload rfl rfl ?_
      refine z_lload rfl rfl ?_
      refine z_callVi (As := [_, _]) (le := [some _, some _, some _, none]) rfl rfl rfl (Nat.le_of_ble_eq_true rfl) (Nat.le_of_ble_eq_true rfl) rfl ?_
      refine z_iload rfl rfl ?_
      refine z_if_ltF rfl (by omega) (by omega) ?_
      refine z_iload rfl rfl ?_
      refine z_aload rfl rfl ?_
      refine z_getI (v := J 48 3) rfl rfl (rfl) ?_
      refine z_icmp_geF rfl (by omega) (by omega) (by omega) ?_
      refine z_aload rfl rfl ?_
      refine z_getR (r := 49) rfl rfl (hR _ rm_48_4) ?_
      refine z_iload rfl rfl ?_
      refine z_aload rfl rfl ?_
      refine z_lload rfl rfl ?_
      refine z_callVi (As := [_]) (le := [some _, some _, none]) rfl rfl rfl (Nat.le_of_ble_eq_true rfl) (Nat.le_of_ble_eq_true rfl) rfl ?_
      refine z_aload rfl rfl ?_
      refine z_getI (v := 4) rfl rfl (hso) ?_
      refine z_swI (tg := 54) rfl (by decide) (T := [((0 : Int), 40), ((1 : Int), 45), ((2 : Int), 50), ((3 : Int), 66), ((4 : Int), 54)]) rfl (by decide) ?_
      refine z_lload rfl rfl ?_
      refine z_pushL (z := 0) rfl rfl ?_
      refine z_lcmp_eq rfl rfl (by omega) (by omega) (fun h3 => ?_) (fun h3 => ?_)
      · refine z_pushL (z := 0) rfl rfl ?_
        refine z_lret rfl rfl ?_
        show zW _ _ _ _ _ _ _ _ _ _
        refine z_last (e := 0) rfl rfl (by decide) (by omega) rfl ?_
        refine z_vret rfl rfl ?_
        show zW _ _ _ _ _ _ _ _ _ _
        refine z_pushI (z := 1) rfl rfl ?_
        refine z_iret rfl rfl ?_
        refine ⟨_, rfl, ?_⟩
        show zW _ _ _ _ [some (.ref 50), some (zi 5), some (zi i), some (zl v), none, none, none] _ _ _ _ _
        refine z_aload rfl rfl ?_
        refine z_iload rfl rfl ?_
        refine z_iload rfl rfl ?_
        refine z_callVi (As := [_, _]) (le := [some _, some _, some _]) rfl rfl rfl (Nat.le_of_ble_eq_true rfl) (Nat.le_of_ble_eq_true rfl) rfl ?_
        refine z_iload rfl rfl ?_
        refine z_callSi (As := [_]) (le := [some _]) rfl rfl (Nat.le_of_ble_eq_true rfl) (Nat.le_of_ble_eq_true rfl) rfl ?_
        refine z_iload rfl rfl ?_
        refine z_pushI (z := 0) rfl rfl ?_
        refine z_pushI (z := 5) rfl rfl ?_
        refine z_callSi (As := [_, _, _]) (le := [some _, some _, some _]) rfl rfl (Nat.le_of_ble_eq_true rfl) (Nat.le_of_ble_eq_true rfl) rfl ?_
        refine z_iload rfl rfl ?_
        refine z_iload rfl rfl ?_
        refine z_icmp_ltF rfl (by decide) (by decide) (by decide) ?_
        refine z_iload rfl rfl ?_
        refine z_iload rfl rfl ?_
        refine z_icmp_gtF rfl (by decide) (by decide) (by decide) ?_
        refine z_pushI (z := 1) rfl rfl ?_
        refine z_goto rfl ?_
        refine z_bret rfl rfl (by decide) ?_
        show zW _ _ _ _ _ _ _ _ _ _
        refine z_bret rfl rfl (by decide) ?_
        show zW _ _ _ _ _ _ _ _ _ _
        refine z_if_neT rfl (by decide) (by decide) ?_
        refine z_aload rfl rfl ?_
        refine z_getR (r := 83) rfl rfl (hRr _ rm_50_58 (by decide)) ?_
        refine z_iload rfl rfl ?_
        refine z_iald (v := (-6)) rfl rfl (by decide) (by decide) ((e83.trans (by rw [hso]; rfl))) ?_
        refine z_pushI (z := (-1)) rfl rfl ?_
        refine z_icmp_neT rfl (by decide) (by decide) (by decide) ?_
        refine z_aload rfl rfl ?_
        refine z_getR (r := 83) rfl rfl (hRr _ rm_50_58 (by decide)) ?_
        refine z_iload rfl rfl ?_
        refine z_iald (v := (-6)) rfl rfl (by decide) (by decide) ((e83.trans (by rw [hso]; rfl))) ?_
        refine z_if_ltT rfl (by decide) (by decide) ?_
        refine z_iload rfl rfl ?_
        refine z_pushI (z := 0) rfl rfl ?_
        refine z_aload rfl rfl ?_
        refine z_getR (r := 84) rfl rfl (hRr _ rm_50_59 (by decide)) ?_
        refine z_iload rfl rfl ?_
        refine z_iald (v := J 48 3) rfl rfl (by decide) (by decide) (s7) ?_
        refine z_pushI (z := 1) rfl rfl ?_
        refine z_isub (e := (J 48 3) - 1) rfl rfl ?_
        refine z_callSi (As := [_, _, _]) (le := [some _, some _, some _]) rfl rfl (Nat.le_of_ble_eq_true rfl) (Nat.le_of_ble_eq_true rfl) rfl ?_
        refine z_iload rfl rfl ?_
        refine z_iload rfl rfl ?_
        refine z_icmp_ltF rfl (by omega) (by decide) (by omega) ?_
        refine z_iload rfl rfl ?_
        refine z_iload rfl rfl ?_
        refine z_icmp_gtF rfl (by omega) (by omega) (by omega) ?_
        refine z_pushI (z := 1) rfl rfl ?_
        refine z_goto rfl ?_
        refine z_bret rfl rfl (by decide) ?_
        show zW _ _ _ _ _ _ _ _ _ _
        refine z_if_eqF rfl (by decide) (by decide) ?_
        refine z_pushI (z := 0) rfl rfl ?_
        refine z_goto rfl ?_
        refine z_iret rfl rfl ?_
        show zW _ _ _ _ _ _ _ _ _ _
        refine z_istore rfl rfl ?_
        refine z_iload rfl rfl ?_
        refine z_if_geT rfl (by decide) (by decide) ?_
        refine z_pushI (z := (-2)) rfl rfl ?_
        refine z_aload rfl rfl ?_
        refine z_getR (r := 83) rfl rfl (hRr _ rm_50_58 (by decide)) ?_
        refine z_iload rfl rfl ?_
        refine z_iald (v := (-6)) rfl rfl (by decide) (by decide) ((e83.trans (by rw [hso]; rfl))) ?_
        refine z_isub (e := 4) rfl rfl ?_
        refine z_istore rfl rfl ?_
        refine z_aload rfl rfl ?_
        refine z_getR (r := 85) rfl rfl (hRr _ rm_50_60 (by decide)) ?_
        refine z_pushI (z := 60) rfl rfl ?_
        refine z_iload rfl rfl ?_
        refine z_imul (e := 300) rfl rfl ?_
        refine z_iload rfl rfl ?_
        refine z_iadd (e := 300 + i) rfl rfl ?_
        refine z_iload rfl rfl ?_
        refine z_if_neT rfl (by decide) (by decide) ?_
        refine z_iload rfl rfl ?_
        refine z_pushI (z := 1) rfl rfl ?_
        refine z_icmp_neT rfl (by decide) (by decide) (by decide) ?_
        refine z_iload rfl rfl ?_
        refine z_pushI (z := 2) rfl rfl ?_
        refine z_icmp_neT rfl (by decide) (by decide) (by decide) ?_
        refine z_iload rfl rfl ?_
        refine z_pushI (z := 3) rfl rfl ?_
        refine z_icmp_neT rfl (by decide) (by decide) (by decide) ?_
        refine z_lload rfl rfl ?_
        refine z_pushL (z := 0) rfl rfl ?_
        refine z_lcmp_eq rfl rfl (by omega) (by omega) (fun h4 => ?_) (fun h4 => ?_)
        · refine z_pushL (z := 0) rfl rfl ?_
          refine z_last (e := 0) rfl rfl (by decide) (by omega) rfl ?_
          refine z_pushI (z := 1) rfl rfl ?_
          refine z_iret rfl rfl ?_
          refine ⟨?_, ?_⟩
          · first | rfl | exact congrArg (fun v => some (zi v)) (by omega) | (exfalso; omega)
          · have hk := (zK_r (k := (kL [] [])) (A := J))
            have hkm := (zK_x (a := 85) (x := 300 + i) (v := 0) (zK_x (a := 49) (x := i) (v := 0) (zK_r (k := (kL [49, 85] [])) (A := M)) rfl) rfl)
            exact ⟨hR, hG, RelY_k hk (by repeat' constructor) (fun p => by repeat' constructor) hY, RelD_k hk (by repeat' constructor) (fun p => by repeat' constructor) hD, RelP_k hk (by repeat' constructor) (fun p => by repeat' constructor) hP, RelC_k hk (by repeat' constructor) (fun p => by repeat' constructor) hC, RelA_k hk (by repeat' constructor) (fun p => by repeat' constructor) hAc, (RelS_one (J := J) (M := M) (c := 5) (fun t t1 t2 te => by have q : t = 0 ∨ t = 1 ∨ t = 2 ∨ t = 3 ∨ t = 4 ∨ t = 5 := (by omega); rcases q with rfl | rfl | rfl | rfl | rfl | rfl <;> first | exact absurd rfl te | exact ⟨fun j => rfl, rfl, rfl⟩) (fun t t1 t2 te => by have q : t = 0 ∨ t = 1 ∨ t = 2 ∨ t = 3 ∨ t = 4 ∨ t = 5 := (by omega); rcases q with rfl | rfl | rfl | rfl | rfl | rfl <;> first | exact absurd rfl te | exact ⟨fun j => rfl, fun j j1 j2 => (zU_x (by omega)).trans (zU_n (by decide))⟩) rfl (show RelS1 _ _ _ from ⟨(hS 5 (by decide) (by decide)).1, (hS 5 (by decide) (by decide)).2.1, s3, s4, (hS 5 (by decide) (by decide)).2.2.2.2.1, fun _ => ⟨s7.symm, fun k k1 k2 => by show (if k = i then 0 else M 49 k) = (if 300 + k = 300 + i then 0 else M 85 (300 + k)); by_cases e : k = i; rw [if_pos e, if_pos (by omega)]; rw [if_neg e, if_neg (by omega)]; exact s8 k k1 k2, (fun hq => absurd (Eq.trans (Eq.symm hq) hso) (by decide))⟩⟩) hS), RelT_k hk (by repeat' constructor) (fun p => by repeat' constructor) hTp, RelX_k hk (by repeat' constructor) (fun p => by repeat' constructor) hX, RelW_k hk ⟨rfl, rfl⟩ trivial hW⟩
        · refine z_pushL (z := 1) rfl rfl ?_
          refine z_goto rfl ?_
          refine z_last (e := 1) rfl rfl (by decide) (by omega) rfl ?_
          refine z_pushI (z := 1) rfl rfl ?_
          refine z_iret rfl rfl ?_
          refine ⟨?_, ?_⟩
          · first | rfl | exact congrArg (fun v => some (zi v)) (by omega) | (exfalso; omega)
          · exfalso
            omega
      · refine z_pushL (z := 1) rfl rfl ?_
        refine z_goto rfl ?_
        refine z_lret rfl rfl ?_
        show zW _ _ _ _ _ _ _ _ _ _
        refine z_last (e := 1) rfl rfl (by decide) (by omega) rfl ?_
        refine z_vret rfl rfl ?_
        show zW _ _ _ _ _ _ _ _ _ _
        refine z_pushI (z := 1) rfl rfl ?_
        refine z_iret rfl rfl ?_
        refine ⟨_, rfl, ?_⟩
        show zW _ _ _ _ [some (.ref 50), some (zi 5), some (zi i), some (zl v), none, none, none] _ _ _ _ _
        refine z_aload rfl rfl ?_
        refine z_iload rfl rfl ?_
        refine z_iload rfl rfl ?_
        refine z_callVi (As := [_, _]) (le := [some _, some _, some _]) rfl rfl rfl (Nat.le_of_ble_eq_true rfl) (Nat.le_of_ble_eq_true rfl) rfl ?_
        refine z_iload rfl rfl ?_
        refine z_callSi (As := [_]) (le := [some _]) rfl rfl (Nat.le_of_ble_eq_true rfl) (Nat.le_of_ble_eq_true rfl) rfl ?_
        refine z_iload rfl rfl ?_
        refine z_pushI (z := 0) rfl rfl ?_
        refine z_pushI (z := 5) rfl rfl ?_
        refine z_callSi (As := [_, _, _]) (le := [some _, some _, some _]) rfl rfl (Nat.le_of_ble_eq_true rfl) (Nat.le_of_ble_eq_true rfl) rfl ?_
        refine z_iload rfl rfl ?_
        refine z_iload rfl rfl ?_
        refine z_icmp_ltF rfl (by decide) (by decide) (by decide) ?_
        refine z_iload rfl rfl ?_
        refine z_iload rfl rfl ?_
        refine z_icmp_gtF rfl (by decide) (by decide) (by decide) ?_
        refine z_pushI (z := 1) rfl rfl ?_
        refine z_goto rfl ?_
        refine z_bret rfl rfl (by decide) ?_
        show zW _ _ _ _ _ _ _ _ _ _
        refine z_bret rfl rfl (by decide) ?_
        show zW _ _ _ _ _ _ _ _ _ _
        refine z_if_neT rfl (by decide) (by decide) ?_
        refine z_aload rfl rfl ?_
        refine z_getR (r := 83) rfl rfl (hRr _ rm_50_58 (by decide)) ?_
        refine z_iload rfl rfl ?_
        refine z_iald (v := (-6)) rfl rfl (by decide) (by decide) ((e83.trans (by rw [hso]; rfl))) ?_
        refine z_pushI (z := (-1)) rfl rfl ?_
        refine z_icmp_neT rfl (by decide) (by decide) (by decide) ?_
        refine z_aload rfl rfl ?_
        refine z_getR (r := 83) rfl rfl (hRr _ rm_50_58 (by decide)) ?_
        refine z_iload rfl rfl ?_
        refine z_iald (v := (-6)) rfl rfl (by decide) (by decide) ((e83.trans (by rw [hso]; rfl))) ?_
        refine z_if_ltT rfl (by decide) (by decide) ?_
        refine z_iload rfl rfl ?_
        refine z_pushI (z := 0) rfl rfl ?_
        refine z_aload rfl rfl ?_
        refine z_getR (r := 84) rfl rfl (hRr _ rm_50_59 (by decide)) ?_
        refine z_iload rfl rfl ?_
        refine z_iald (v := J 48 3) rfl rfl (by decide) (by decide) (s7) ?_
        refine z_pushI (z := 1) rfl rfl ?_
        refine z_isub (e := (J 48 3) - 1) rfl rfl ?_
        refine z_callSi (As := [_, _, _]) (le := [some _, some _, some _]) rfl rfl (Nat.le_of_ble_eq_true rfl) (Nat.le_of_ble_eq_true rfl) rfl ?_
        refine z_iload rfl rfl ?_
        refine z_iload rfl rfl ?_
        refine z_icmp_ltF rfl (by omega) (by decide) (by omega) ?_
        refine z_iload rfl rfl ?_
        refine z_iload rfl rfl ?_
        refine z_icmp_gtF rfl (by omega) (by omega) (by omega) ?_
        refine z_pushI (z := 1) rfl rfl ?_
        refine z_goto rfl ?_
        refine z_bret rfl rfl (by decide) ?_
        show zW _ _ _ _ _ _ _ _ _ _
        refine z_if_eqF rfl (by decide) (by decide) ?_
        refine z_pushI (z := 0) rfl rfl ?_
        refine z_goto rfl ?_
        refine z_iret rfl rfl ?_
        show zW _ _ _ _ _ _ _ _ _ _
        refine z_istore rfl rfl ?_
        refine z_iload rfl rfl ?_
        refine z_if_geT rfl (by decide) (by decide) ?_
        refine z_pushI (z := (-2)) rfl rfl ?_
        refine z_aload rfl rfl ?_
        refine z_getR (r := 83) rfl rfl (hRr _ rm_50_58 (by decide)) ?_
        refine z_iload rfl rfl ?_
        refine z_iald (v := (-6)) rfl rfl (by decide) (by decide) ((e83.trans (by rw [hso]; rfl))) ?_
        refine z_isub (e := 4) rfl rfl ?_
        refine z_istore rfl rfl ?_
        refine z_aload rfl rfl ?_
        refine z_getR (r := 85) rfl rfl (hRr _ rm_50_60 (by decide)) ?_
        refine z_pushI (z := 60) rfl rfl ?_
        refine z_iload rfl rfl ?_
        refine z_imul (e := 300) rfl rfl ?_
        refine z_iload rfl rfl ?_
        refine z_iadd (e := 300 + i) rfl rfl ?_
        refine z_iload rfl rfl ?_
        refine z_if_neT rfl (by decide) (by decide) ?_
        refine z_iload rfl rfl ?_
        refine z_pushI (z := 1) rfl rfl ?_
        refine z_icmp_neT rfl (by decide) (by decide) (by decide) ?_
        refine z_iload rfl rfl ?_
        refine z_pushI (z := 2) rfl rfl ?_
        refine z_icmp_neT rfl (by decide) (by decide) (by decide) ?_
        refine z_iload rfl rfl ?_
        refine z_pushI (z := 3) rfl rfl ?_
        refine z_icmp_neT rfl (by decide) (by decide) (by decide) ?_
        refine z_lload rfl rfl ?_
        refine z_pushL (z := 0) rfl rfl ?_
        refine z_lcmp_eq rfl rfl (by omega) (by omega) (fun h4 => ?_) (fun h4 => ?_)
        · refine z_pushL (z := 0) rfl rfl ?_
          refine z_last (e := 0) rfl rfl (by decide) (by omega) rfl ?_
          refine z_pushI (z := 1) rfl rfl ?_
          refine z_iret rfl rfl ?_
          refine ⟨?_, ?_⟩
          · first | rfl | exact congrArg (fun v => some (zi v)) (by omega) | (exfalso; omega)
          · exfalso
            omega
        · refine z_pushL (z := 1) rfl rfl ?_
          refine z_goto rfl ?_
          refine z_last (e := 1) rfl rfl (by decide) (by omega) rfl ?_
          refine z_pushI (z := 1) rfl rfl ?_
          refine z_iret rfl rfl ?_
          refine ⟨?_, ?_⟩
          · first | rfl | exact congrArg (fun v => some (zi v)) (by omega) | (exfalso; omega)
          · have hk := (zK_r (k := (kL [] [])) (A := J))
            have hkm := (zK_x (a := 85) (x := 300 + i) (v := 1) (zK_x (a := 49) (x := i) (v := 1) (zK_r (k := (kL [49, 85] [])) (A := M)) rfl) rfl)
            exact ⟨hR, hG, RelY_k hk (by repeat' constructor) (fun p => by repeat' constructor) hY, RelD_k hk (by repeat' constructor) (fun p => by repeat' constructor) hD, RelP_k hk (by repeat' constructor) (fun p => by repeat' constructor) hP, RelC_k hk (by repeat' constructor) (fun p => by repeat' constructor) hC, RelA_k hk (by repeat' constructor) (fun p => by repeat' constructor) hAc, (RelS_one (J := J) (M := M) (c := 5) (fun t t1 t2 te => by have q : t = 0 ∨ t = 1 ∨ t = 2 ∨ t = 3 ∨ t = 4 ∨ t = 5 := (by omega); rcases q with rfl | rfl | rfl | rfl | rfl | rfl <;> first | exact absurd rfl te | exact ⟨fun j => rfl, rfl, rfl⟩) (fun t t1 t2 te => by have q : t = 0 ∨ t = 1 ∨ t = 2 ∨ t = 3 ∨ t = 4 ∨ t = 5 := (by omega); rcases q with rfl | rfl | rfl | rfl | rfl | rfl <;> first | exact absurd rfl te | exact ⟨fun j => rfl, fun j j1 j2 => (zU_x (by omega)).trans (zU_n (by decide))⟩) rfl (show RelS1 _ _ _ from ⟨(hS 5 (by decide) (by decide)).1, (hS 5 (by decide) (by decide)).2.1, s3, s4, (hS 5 (by decide) (by decide)).2.2.2.2.1, fun _ => ⟨s7.symm, fun k k1 k2 => by show (if k = i then 1 else M 49 k) = (if 300 + k = 300 + i then 1 else M 85 (300 + k)); by_cases e : k = i; rw [if_pos e, if_pos (by omega)]; rw [if_neg e, if_neg (by omega)]; exact s8 k k1 k2, (fun hq => absurd (Eq.trans (Eq.symm hq) hso) (by decide))⟩⟩) hS), RelT_k hk (by repeat' constructor) (fun p => by repeat' constructor) hTp, RelX_k hk (by repeat' constructor) (fun p => by repeat' constructor) hX, RelW_k hk ⟨rfl, rfl⟩ trivial hW⟩
