theorem tI_30 {n k : Int} {s : tR} (h : tI n s k) (hk : k ≤ 30) : tI n s 30 := by
  obtain ⟨a, b, c, d, e, f⟩ := h
  refine ⟨a, fun p => ?_, c, d, ?_, f⟩
  · have := b p
    omega
  · omega
theorem st_round_n {X : Nat × (Nat → Int32)} {d : Nat} {J M : zA} {R : zR} {s p : Int} (hr : Rel X J M R) (hs : -2147483648 ≤ s ∧ s < 2147483648) (hp : -2147483648 ≤ p ∧ p < 2147483648) (hs6 : ¬ (0 ≤ s ∧ s < 6)) : zW X (d + 20) 109 0 (gEn 109 [(.ref 0), (zi s), (zi p)]) [] J M R (stP X (d + 20) 196 [(zi s), (zi p)]) := by
  have hr0 := hr
  obtain ⟨hR, hG, hY, hD, hP, hC, hAc, hS, hTp, hX, hW⟩ := hr0
  have hRr : zRoR R := zRoR_of hR
  have hY0 := hY
  obtain ⟨y1, y2, y3⟩ := hY0
  have yn := zNn y3
  show zW _ _ _ _ [some (.ref 0), some (zi s), some (zi p), none] _ _ _ _ _
  refine z_iload rfl rfl ?_
  refine z_callSi (As := [_]) (le := [some _]) rfl rfl (Nat.le_of_ble_eq_true rfl) (Nat.le_of_ble_eq_true rfl) rfl ?_
  refine z_iload rfl rfl ?_
  refine z_if_lt rfl (by omega) (fun h1 => ?_) (fun h1 => ?_)
  · refine z_pushI (z := 0) rfl rfl ?_
    refine z_bret rfl rfl (by decide) ?_
    show zW _ _ _ _ _ _ _ _ _ _
    refine z_if_eqT rfl (by decide) (by decide) ?_
    refine z_pushI (z := (-1)) rfl rfl ?_
    refine z_iret rfl rfl ?_
    refine ⟨_, rfl, ?_⟩
    show zW _ _ _ _ [some (.ref 50), some (zi s), some (zi p), none] _ _ _ _ _
    refine z_iload rfl rfl ?_
    refine z_callSi (As := [_]) (le := [some _]) rfl rfl (Nat.le_of_ble_eq_true rfl) (Nat.le_of_ble_eq_true rfl) rfl ?_
    refine z_iload rfl rfl ?_
    refine z_pushI (z := 0) rfl rfl ?_
    refine z_pushI (z := 5) rfl rfl ?_
    refine z_callSi (As := [_, _, _]) (le := [some _, some _, some _]) rfl rfl (Nat.le_of_ble_eq_true rfl) (Nat.le_of_ble_eq_true rfl) rfl ?_
    refine z_iload rfl rfl ?_
    refine z_iload rfl rfl ?_
    refine z_icmp_ltT rfl (by omega) (by decide) (by omega) ?_
    refine z_pushI (z := 0) rfl rfl ?_
    refine z_bret rfl rfl (by decide) ?_
    show zW _ _ _ _ _ _ _ _ _ _
    refine z_bret rfl rfl (by decide) ?_
    show zW _ _ _ _ _ _ _ _ _ _
    refine z_if_eqT rfl (by decide) (by decide) ?_
    refine z_pushI (z := (-1)) rfl rfl ?_
    refine z_iret rfl rfl ?_
    refine ⟨?_, ?_⟩
    · first | rfl | exact congrArg (fun v => some (zi v)) (by omega) | (exfalso; omega)
    · exact hr
  · refine z_iload rfl rfl ?_
    refine z_pushI (z := 6) rfl rfl ?_
    refine z_icmp_geT rfl (by omega) (by decide) (by omega) ?_
    refine z_pushI (z := 0) rfl rfl ?_
    refine z_bret rfl rfl (by decide) ?_
    show zW _ _ _ _ _ _ _ _ _ _
    refine z_if_eqT rfl (by decide) (by decide) ?_
    refine z_pushI (z := (-1)) rfl rfl ?_
    refine z_iret rfl rfl ?_
    refine ⟨_, rfl, ?_⟩
    show zW _ _ _ _ [some (.ref 50), some (zi s), some (zi p), none] _ _ _ _ _
    refine z_iload rfl rfl ?_
    refine z_callSi (As := [_]) (le := [some _]) rfl rfl (Nat.le_of_ble_eq_true rfl) (Nat.le_of_ble_eq_true rfl) rfl ?_
    refine z_iload rfl rfl ?_
    refine z_pushI (z := 0) rfl rfl ?_
    refine z_pushI (z := 5) rfl rfl ?_
    refine z_callSi (As := [_, _, _]) (le := [some _, some _, some _]) rfl rfl (Nat.le_of_ble_eq_true rfl) (Nat.le_of_ble_eq_true rfl) rfl ?_
    refine z_iload rfl rfl ?_
    refine z_iload rfl rfl ?_
    refine z_icmp_ltF rfl (by omega) (by decide) (by omega) ?_
    refine z_iload rfl rfl ?_
    refine z_iload rfl rfl ?_
    refine z_icmp_gtT rfl (by omega) (by decide) (by omega) ?_
    refine z_pushI (z := 0) rfl rfl ?_
    refine z_bret rfl rfl (by decide) ?_
    show zW _ _ _ _ _ _ _ _ _ _
    refine z_bret rfl rfl (by decide) ?_
    show zW _ _ _ _ _ _ _ _ _ _
    refine z_if_eqT rfl (by decide) (by decide) ?_
    refine z_pushI (z := (-1)) rfl rfl ?_
    refine z_iret rfl rfl ?_
    refine ⟨?_, ?_⟩
    · first | rfl | exact congrArg (fun v => some (zi v)) (by omega) | (exfalso; omega)
    · exact hr
theorem st_round_0 {X : Nat × (Nat → Int32)} {d : Nat} {J M : zA} {R : zR} {s p : Int} (hr : Rel X J M R) (hs : -2147483648 ≤ s ∧ s < 2147483648) (hp : -2147483648 ≤ p ∧ p < 2147483648) (hs6 : 0 ≤ s ∧ s < 6) (hh : J (38 + 2 * s.toNat) 0 = 0) : zW X (d + 20) 109 0 (gEn 109 [(.ref 0), (zi s), (zi p)]) [] J M R (stP X (d + 20) 196 [(zi s), (zi p)]) := by
  have hr0 := hr
  obtain ⟨hR, hG, hY, hD, hP, hC, hAc, hS, hTp, hX, hW⟩ := hr0
  have hRr : zRoR R := zRoR_of hR
  have hY0 := hY
  obtain ⟨y1, y2, y3⟩ := hY0
  have yn := zNn y3
  have hA0 := hAc
  obtain ⟨a1, a2, a3, a4, a5, a6⟩ := hA0
  have e83 : J 83 s = -1 := (hS s hs6.1 hs6.2).1.symm.trans (cH_0 hh)
  have s3 : 0 ≤ J (38 + 2 * s.toNat) 2 ∧ J (38 + 2 * s.toNat) 2 ≤ 4 := (hS s hs6.1 hs6.2).2.2.1
  have s4 : 0 ≤ J (38 + 2 * s.toNat) 3 ∧ J (38 + 2 * s.toNat) 3 ≤ 60 := (hS s hs6.1 hs6.2).2.2.2.1
  show zW _ _ _ _ [some (.ref 0), some (zi s), some (zi p), none] _ _ _ _ _
  refine z_iload rfl rfl ?_
  refine z_callSi (As := [_]) (le := [some _]) rfl rfl (Nat.le_of_ble_eq_true rfl) (Nat.le_of_ble_eq_true rfl) rfl ?_
  refine z_iload rfl rfl ?_
  refine z_if_ltF rfl (by omega) (by omega) ?_
  refine z_iload rfl rfl ?_
  refine z_pushI (z := 6) rfl rfl ?_
  refine z_icmp_geF rfl (by omega) (by decide) (by omega) ?_
  refine z_pushI (z := 1) rfl rfl ?_
  refine z_goto rfl ?_
  refine z_bret rfl rfl (by decide) ?_
  show zW _ _ _ _ _ _ _ _ _ _
  refine z_if_eqF rfl (by decide) (by decide) ?_
  refine z_iload rfl rfl ?_
  refine z_pushI (z := (-3)) rfl rfl ?_
  refine z_icmp_lt rfl (by omega) (by decide) (fun h1 => ?_) (fun h1 => ?_)
  · refine z_pushI (z := (-1)) rfl rfl ?_
    refine z_iret rfl rfl ?_
    refine ⟨_, rfl, ?_⟩
    show zW _ _ _ _ [some (.ref 50), some (zi s), some (zi p), none] _ _ _ _ _
    refine z_iload rfl rfl ?_
    refine z_callSi (As := [_]) (le := [some _]) rfl rfl (Nat.le_of_ble_eq_true rfl) (Nat.le_of_ble_eq_true rfl) rfl ?_
    refine z_iload rfl rfl ?_
    refine z_pushI (z := 0) rfl rfl ?_
    refine z_pushI (z := 5) rfl rfl ?_
    refine z_callSi (As := [_, _, _]) (le := [some _, some _, some _]) rfl rfl (Nat.le_of_ble_eq_true rfl) (Nat.le_of_ble_eq_true rfl) rfl ?_
    refine z_iload rfl rfl ?_
    refine z_iload rfl rfl ?_
    refine z_icmp_ltF rfl (by omega) (by decide) (by omega) ?_
    refine z_iload rfl rfl ?_
    refine z_iload rfl rfl ?_
    refine z_icmp_gtF rfl (by omega) (by decide) (by omega) ?_
    refine z_pushI (z := 1) rfl rfl ?_
    refine z_goto rfl ?_
    refine z_bret rfl rfl (by decide) ?_
    show zW _ _ _ _ _ _ _ _ _ _
    refine z_bret rfl rfl (by decide) ?_
    show zW _ _ _ _ _ _ _ _ _ _
    refine z_if_eqF rfl (by decide) (by decide) ?_
    refine z_iload rfl rfl ?_
    refine z_pushI (z := (-3)) rfl rfl ?_
    refine z_aload rfl rfl ?_
    refine z_getI (v := J 8 2) rfl rfl (y2.symm) ?_
    refine z_pushI (z := 1) rfl rfl ?_
    refine z_isub (e := (J 8 2) - 1) rfl rfl ?_
    refine z_callSi (As := [_, _, _]) (le := [some _, some _, some _]) rfl rfl (Nat.le_of_ble_eq_true rfl) (Nat.le_of_ble_eq_true rfl) rfl ?_
    refine z_iload rfl rfl ?_
    refine z_iload rfl rfl ?_
    refine z_icmp_ltT rfl (by omega) (by decide) (by omega) ?_
    refine z_pushI (z := 0) rfl rfl ?_
    refine z_bret rfl rfl (by decide) ?_
    show zW _ _ _ _ _ _ _ _ _ _
    refine z_if_neF rfl (by decide) (by decide) ?_
    refine z_pushI (z := (-1)) rfl rfl ?_
    refine z_iret rfl rfl ?_
    refine ⟨?_, ?_⟩
    · first | rfl | exact congrArg (fun v => some (zi v)) (by omega) | (exfalso; omega)
    · exact hr
  · refine z_iload rfl rfl ?_
    refine z_aload rfl rfl ?_
    refine z_getR (r := 8) rfl rfl (hR _ rm_0_1) ?_
    refine z_getI (v := J 8 2) rfl rfl (rfl) ?_
    refine z_icmp_lt rfl (by omega) (by omega) (fun h2 => ?_) (fun h2 => ?_)
    · refine z_aload rfl rfl ?_
      refine z_getR (r := 10) rfl rfl (hR _ rm_0_2) ?_
      refine z_aload rfl rfl ?_
      refine z_getR (r := 37) rfl rfl (hR _ rm_0_11) ?_
      refine z_iload rfl rfl ?_
      refine z_aald (r := 38 + 2 * s.toNat) rfl rfl (by decide) (by omega) (rr_shelf hR (by omega)) ?_
      refine z_callVi (As := [_]) (le := [some _, some _, none, none, none]) rfl rfl rfl (Nat.le_of_ble_eq_true rfl) (Nat.le_of_ble_eq_true rfl) rfl ?_
      refine z_aload rfl rfl ?_
      refine z_callVi (As := []) (le := [some _]) rfl rfl (zk_shelf (by omega)) (Nat.le_of_ble_eq_true rfl) (Nat.le_of_ble_eq_true rfl) rfl ?_
      refine z_aload rfl rfl ?_
      refine z_getI (v := 0) rfl (zk_shelf (by omega)) (hh) ?_
      refine z_if_neF rfl (by decide) (by decide) ?_
      refine z_pushI (z := (-11)) rfl rfl ?_
      refine z_iret rfl rfl ?_
      show zW _ _ _ _ _ _ _ _ _ _
      refine z_istore rfl rfl ?_
      refine z_iload rfl rfl ?_
      refine z_if_geF rfl (by decide) (by decide) ?_
      refine z_iload rfl rfl ?_
      refine z_iret rfl rfl ?_
      show zW _ _ _ _ _ _ _ _ _ _
      refine z_istore rfl rfl ?_
      refine z_iload rfl rfl ?_
      refine z_if_geF rfl (by decide) (by decide) ?_
      refine z_iload rfl rfl ?_
      refine z_iret rfl rfl ?_
      refine ⟨_, rfl, ?_⟩
      show zW _ _ _ _ [some (.ref 50), some (zi s), some (zi p), none] _ _ _ _ _
      refine z_iload rfl rfl ?_
      refine z_callSi (As := [_]) (le := [some _]) rfl rfl (Nat.le_of_ble_eq_true rfl) (Nat.le_of_ble_eq_true rfl) rfl ?_
      refine z_iload rfl rfl ?_
      refine z_pushI (z := 0) rfl rfl ?_
      refine z_pushI (z := 5) rfl rfl ?_
      refine z_callSi (As := [_, _, _]) (le := [some _, some _, some _]) rfl rfl (Nat.le_of_ble_eq_true rfl) (Nat.le_of_ble_eq_true rfl) rfl ?_
      refine z_iload rfl rfl ?_
      refine z_iload rfl rfl ?_
      refine z_icmp_ltF rfl (by omega) (by decide) (by omega) ?_
      refine z_iload rfl rfl ?_
      refine z_iload rfl rfl ?_
      refine z_icmp_gtF rfl (by omega) (by decide) (by omega) ?_
      refine z_pushI (z := 1) rfl rfl ?_
      refine z_goto rfl ?_
      refine z_bret rfl rfl (by decide) ?_
      show zW _ _ _ _ _ _ _ _ _ _
      refine z_bret rfl rfl (by decide) ?_
      show zW _ _ _ _ _ _ _ _ _ _
      refine z_if_eqF rfl (by decide) (by decide) ?_
      refine z_iload rfl rfl ?_
      refine z_pushI (z := (-3)) rfl rfl ?_
      refine z_aload rfl rfl ?_
      refine z_getI (v := J 8 2) rfl rfl (y2.symm) ?_
      refine z_pushI (z := 1) rfl rfl ?_
      refine z_isub (e := (J 8 2) - 1) rfl rfl ?_
      refine z_callSi (As := [_, _, _]) (le := [some _, some _, some _]) rfl rfl (Nat.le_of_ble_eq_true rfl) (Nat.le_of_ble_eq_true rfl) rfl ?_
      refine z_iload rfl rfl ?_
      refine z_iload rfl rfl ?_
      refine z_icmp_ltF rfl (by omega) (by decide) (by omega) ?_
      refine z_iload rfl rfl ?_
      refine z_iload rfl rfl ?_
      refine z_icmp_gtF rfl (by omega) (by omega) (by omega) ?_
      refine z_pushI (z := 1) rfl rfl ?_
      refine z_goto rfl ?_
      refine z_bret rfl rfl (by decide) ?_
      show zW _ _ _ _ _ _ _ _ _ _
      refine z_if_neT rfl (by decide) (by decide) ?_
      refine z_aload rfl rfl ?_
      refine z_iload rfl rfl ?_
      refine z_callVi (As := [_]) (le := [some _, some _]) rfl rfl rfl (Nat.le_of_ble_eq_true rfl) (Nat.le_of_ble_eq_true rfl) rfl ?_
      refine z_aload rfl rfl ?_
      refine z_getR (r := 83) rfl rfl (hRr _ rm_50_58 (by decide)) ?_
      refine z_iload rfl rfl ?_
      refine z_iald (v := (-1)) rfl rfl (by decide) (by omega) (e83) ?_
      refine z_pushI (z := (-1)) rfl rfl ?_
      refine z_icmp_neF rfl (by decide) (by decide) (by decide) ?_
      refine z_pushI (z := (-11)) rfl rfl ?_
      refine z_goto rfl ?_
      refine z_iret rfl rfl ?_
      show zW _ _ _ _ _ _ _ _ _ _
      refine z_if_geF rfl (by decide) (by decide) ?_
      refine z_aload rfl rfl ?_
      refine z_iload rfl rfl ?_
      refine z_callVi (As := [_]) (le := [some _, some _]) rfl rfl rfl (Nat.le_of_ble_eq_true rfl) (Nat.le_of_ble_eq_true rfl) rfl ?_
      refine z_aload rfl rfl ?_
      refine z_getR (r := 83) rfl rfl (hRr _ rm_50_58 (by decide)) ?_
      refine z_iload rfl rfl ?_
      refine z_iald (v := (-1)) rfl rfl (by decide) (by omega) (e83) ?_
      refine z_pushI (z := (-1)) rfl rfl ?_
      refine z_icmp_neF rfl (by decide) (by decide) (by decide) ?_
      refine z_pushI (z := (-11)) rfl rfl ?_
      refine z_goto rfl ?_
      refine z_iret rfl rfl ?_
      show zW _ _ _ _ _ _ _ _ _ _
      refine z_iret rfl rfl ?_
      refine ⟨?_, ?_⟩
      · first | rfl | exact congrArg (fun v => some (zi v)) (by omega) | (exfalso; omega)
      · exact hr
    · refine z_pushI (z := (-1)) rfl rfl ?_
      refine z_iret rfl rfl ?_
      refine ⟨_, rfl, ?_⟩
      show zW _ _ _ _ [some (.ref 50), some (zi s), some (zi p), none] _ _ _ _ _
      refine z_iload rfl rfl ?_
      refine z_callSi (As := [_]) (le := [some _]) rfl rfl (Nat.le_of_ble_eq_true rfl) (Nat.le_of_ble_eq_true rfl) rfl ?_
      refine z_iload rfl rfl ?_
      refine z_pushI (z := 0) rfl rfl ?_
      refine z_pushI (z := 5) rfl rfl ?_
      refine z_callSi (As := [_, _, _]) (le := [some _, some _, some _]) rfl rfl (Nat.le_of_ble_eq_true rfl) (Nat.le_of_ble_eq_true rfl) rfl ?_
      refine z_iload rfl rfl ?_
      refine z_iload rfl rfl ?_
      refine z_icmp_ltF rfl (by omega) (by decide) (by omega) ?_
      refine z_iload rfl rfl ?_
      refine z_iload rfl rfl ?_
      refine z_icmp_gtF rfl (by omega) (by decide) (by omega) ?_
      refine z_pushI (z := 1) rfl rfl ?_
      refine z_goto rfl ?_
      refine z_bret rfl rfl (by decide) ?_
      show zW _ _ _ _ _ _ _ _ _ _
      refine z_bret rfl rfl (by decide) ?_
      show zW _ _ _ _ _ _ _ _ _ _
      refine z_if_eqF rfl (by decide) (by decide) ?_
      refine z_iload rfl rfl ?_
      refine z_pushI (z := (-3)) rfl rfl ?_
      refine z_aload rfl rfl ?_
      refine z_getI (v := J 8 2) rfl rfl (y2.symm) ?_
      refine z_pushI (z := 1) rfl rfl ?_
      refine z_isub (e := (J 8 2) - 1) rfl rfl ?_
      refine z_callSi (As := [_, _, _]) (le := [some _, some _, some _]) rfl rfl (Nat.le_of_ble_eq_true rfl) (Nat.le_of_ble_eq_true rfl) rfl ?_
      refine z_iload rfl rfl ?_
      refine z_iload rfl rfl ?_
      refine z_icmp_ltF rfl (by omega) (by decide) (by omega) ?_
      refine z_iload rfl rfl ?_
      refine z_iload rfl rfl ?_
      refine z_icmp_gtT rfl (by omega) (by omega) (by omega) ?_
      refine z_pushI (z := 0) rfl rfl ?_
      refine z_bret rfl rfl (by decide) ?_
      show zW _ _ _ _ _ _ _ _ _ _
      refine z_if_neF rfl (by decide) (by decide) ?_
      refine z_pushI (z := (-1)) rfl rfl ?_
      refine z_iret rfl rfl ?_
      refine ⟨?_, ?_⟩
      · first | rfl | exact congrArg (fun v => some (zi v)) (by omega) | (exfalso; omega)
      · exact hr
