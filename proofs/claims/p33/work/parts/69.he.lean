theorem st_hears {X : Nat × (Nat → Int32)} {d : Nat} {J M : zA} {R : zR} {p q : Int} (hr : Rel X J M R) (hp : -2147483648 ≤ p ∧ p < 2147483648) (hq : -2147483648 ≤ q ∧ q < 2147483648)  : zW X (d + 20) 108 0 (gEn 108 [(.ref 0), (zi p), (zi q)]) [] J M R (stP X (d + 20) 184 [(zi p), (zi q)]) := by
  have hr0 := hr
  obtain ⟨hR, hG, hY, hD, hP, hC, hAc, hS, hTp, hX, hW⟩ := hr0
  have hRr : zRoR R := zRoR_of hR
  have hY0 := hY
  obtain ⟨y1, y2, y3⟩ := hY0
  have yn := zNn y3
  obtain ⟨T, t1, t2, t3⟩ := hX
  show zW _ _ _ _ [some (.ref 0), some (zi p), some (zi q)] _ _ _ _ _
  refine z_aload rfl rfl ?_
  refine z_getR (r := 8) rfl rfl (hR _ rm_0_1) ?_
  refine z_iload rfl rfl ?_
  refine z_callVi (As := [_]) (le := [some _, some _]) rfl rfl rfl (Nat.le_of_ble_eq_true rfl) (Nat.le_of_ble_eq_true rfl) rfl ?_
  refine z_iload rfl rfl ?_
  refine z_if_lt rfl (by omega) (fun h1 => ?_) (fun h1 => ?_)
  · refine z_pushI (z := 0) rfl rfl ?_
    refine z_bret rfl rfl (by decide) ?_
    show zW _ _ _ _ _ _ _ _ _ _
    refine z_if_eqT rfl (by decide) (by decide) ?_
    refine z_pushI (z := (-1)) rfl rfl ?_
    refine z_iret rfl rfl ?_
    refine ⟨_, rfl, ?_⟩
    show zW _ _ _ _ [some (.ref 50), some (zi p), some (zi q)] _ _ _ _ _
    refine z_aload rfl rfl ?_
    refine z_iload rfl rfl ?_
    refine z_callVi (As := [_]) (le := [some _, some _]) rfl rfl rfl (Nat.le_of_ble_eq_true rfl) (Nat.le_of_ble_eq_true rfl) rfl ?_
    refine z_iload rfl rfl ?_
    refine z_pushI (z := 0) rfl rfl ?_
    refine z_aload rfl rfl ?_
    refine z_getI (v := J 8 2) rfl rfl (y2.symm) ?_
    refine z_pushI (z := 1) rfl rfl ?_
    refine z_isub (e := (J 8 2) - 1) rfl rfl ?_
    refine z_callSi (As := [_, _, _]) (le := [some _, some _, some _]) rfl rfl (Nat.le_of_ble_eq_true rfl) (Nat.le_of_ble_eq_true rfl) rfl ?_
    refine z_iload rfl rfl ?_
    refine z_iload rfl rfl ?_
    refine z_icmp_ltT rfl (by omega) (by decide) (by omega) ?_
    refine z_pushI (z := 0) rfl rfl ?_
    refine z_bret rfl rfl (by decide) ?_
    show zW _ _ _ _ _ _ _ _ _ _
    refine z_bret rfl rfl (by decide) ?_
    show zW _ _ _ _ _ _ _ _ _ _
    refine z_if_eqT rfl (by decide) (by decide) ?_
    refine z_pushI (z := (-1)) rfl rfl ?_
    refine z_iret rfl rfl ?_
    refine ⟨?_, ?_⟩
    · first | rfl | exact congrArg (fun v => some (zi v)) (by omega) | (exfalso; omega)
    · exact hr
  · refine z_iload rfl rfl ?_
    refine z_aload rfl rfl ?_
    refine z_getI (v := J 8 2) rfl rfl (rfl) ?_
    refine z_icmp_ge rfl (by omega) (by omega) (fun h2 => ?_) (fun h2 => ?_)
    · refine z_pushI (z := 0) rfl rfl ?_
      refine z_bret rfl rfl (by decide) ?_
      show zW _ _ _ _ _ _ _ _ _ _
      refine z_if_eqT rfl (by decide) (by decide) ?_
      refine z_pushI (z := (-1)) rfl rfl ?_
      refine z_iret rfl rfl ?_
      refine ⟨_, rfl, ?_⟩
      show zW _ _ _ _ [some (.ref 50), some (zi p), some (zi q)] _ _ _ _ _
      refine z_aload rfl rfl ?_
      refine z_iload rfl rfl ?_
      refine z_callVi (As := [_]) (le := [some _, some _]) rfl rfl rfl (Nat.le_of_ble_eq_true rfl) (Nat.le_of_ble_eq_true rfl) rfl ?_
      refine z_iload rfl rfl ?_
      refine z_pushI (z := 0) rfl rfl ?_
      refine z_aload rfl rfl ?_
      refine z_getI (v := J 8 2) rfl rfl (y2.symm) ?_
      refine z_pushI (z := 1) rfl rfl ?_
      refine z_isub (e := (J 8 2) - 1) rfl rfl ?_
      refine z_callSi (As := [_, _, _]) (le := [some _, some _, some _]) rfl rfl (Nat.le_of_ble_eq_true rfl) (Nat.le_of_ble_eq_true rfl) rfl ?_
      refine z_iload rfl rfl ?_
      refine z_iload rfl rfl ?_
      refine z_icmp_ltF rfl (by omega) (by decide) (by omega) ?_
      refine z_iload rfl rfl ?_
      refine z_iload rfl rfl ?_
      refine z_icmp_gtT rfl (by omega) (by omega) (by omega) ?_
      refine z_pushI (z := 0) rfl rfl ?_
      refine z_bret rfl rfl (by decide) ?_
      show zW _ _ _ _ _ _ _ _ _ _
      refine z_bret rfl rfl (by decide) ?_
      show zW _ _ _ _ _ _ _ _ _ _
      refine z_if_eqT rfl (by decide) (by decide) ?_
      refine z_pushI (z := (-1)) rfl rfl ?_
      refine z_iret rfl rfl ?_
      refine ⟨?_, ?_⟩
      · first | rfl | exact congrArg (fun v => some (zi v)) (by omega) | (exfalso; omega)
      · exact hr
    · refine z_pushI (z := 1) rfl rfl ?_
      refine z_goto rfl ?_
      refine z_bret rfl rfl (by decide) ?_
      show zW _ _ _ _ _ _ _ _ _ _
      refine z_if_eqF rfl (by decide) (by decide) ?_
      refine z_iload rfl rfl ?_
      refine z_if_lt rfl (by omega) (fun h3 => ?_) (fun h3 => ?_)
      · refine z_pushI (z := (-1)) rfl rfl ?_
        refine z_iret rfl rfl ?_
        refine ⟨_, rfl, ?_⟩
        show zW _ _ _ _ [some (.ref 50), some (zi p), some (zi q)] _ _ _ _ _
        refine z_aload rfl rfl ?_
        refine z_iload rfl rfl ?_
        refine z_callVi (As := [_]) (le := [some _, some _]) rfl rfl rfl (Nat.le_of_ble_eq_true rfl) (Nat.le_of_ble_eq_true rfl) rfl ?_
        refine z_iload rfl rfl ?_
        refine z_pushI (z := 0) rfl rfl ?_
        refine z_aload rfl rfl ?_
        refine z_getI (v := J 8 2) rfl rfl (y2.symm) ?_
        refine z_pushI (z := 1) rfl rfl ?_
        refine z_isub (e := (J 8 2) - 1) rfl rfl ?_
        refine z_callSi (As := [_, _, _]) (le := [some _, some _, some _]) rfl rfl (Nat.le_of_ble_eq_true rfl) (Nat.le_of_ble_eq_true rfl) rfl ?_
        refine z_iload rfl rfl ?_
        refine z_iload rfl rfl ?_
        refine z_icmp_ltF rfl (by omega) (by decide) (by omega) ?_
        refine z_iload rfl rfl ?_
        refine z_iload rfl rfl ?_
        refine z_icmp_gtF rfl (by omega) (by omega) (by omega) ?_
        refine z_pushI (z := 1) rfl rfl ?_
        refine z_goto rfl ?_
        refine z_bret rfl rfl (by decide) ?_
        show zW _ _ _ _ _ _ _ _ _ _
        refine z_bret rfl rfl (by decide) ?_
        show zW _ _ _ _ _ _ _ _ _ _
        refine z_if_eqF rfl (by decide) (by decide) ?_
        refine z_iload rfl rfl ?_
        refine z_pushI (z := 0) rfl rfl ?_
        refine z_pushI (z := 999999) rfl rfl ?_
        refine z_callSi (As := [_, _, _]) (le := [some _, some _, some _]) rfl rfl (Nat.le_of_ble_eq_true rfl) (Nat.le_of_ble_eq_true rfl) rfl ?_
        refine z_iload rfl rfl ?_
        refine z_iload rfl rfl ?_
        refine z_icmp_ltT rfl (by omega) (by decide) (by omega) ?_
        refine z_pushI (z := 0) rfl rfl ?_
        refine z_bret rfl rfl (by decide) ?_
        show zW _ _ _ _ _ _ _ _ _ _
        refine z_if_eqT rfl (by decide) (by decide) ?_
        refine z_pushI (z := (-1)) rfl rfl ?_
        refine z_iret rfl rfl ?_
        refine ⟨?_, ?_⟩
        · first | rfl | exact congrArg (fun v => some (zi v)) (by omega) | (exfalso; omega)
        · exact hr
      · refine z_iload rfl rfl ?_
        refine z_pushI (z := 1000000) rfl rfl ?_
        refine z_icmp_lt rfl (by omega) (by decide) (fun h4 => ?_) (fun h4 => ?_)
        · refine z_aload rfl rfl ?_
          refine z_getR (r := 8) rfl rfl (hR _ rm_0_1) ?_
          refine z_iload rfl rfl ?_
          refine z_iload rfl rfl ?_
          refine z_pushI (z := 1000) rfl rfl ?_
          refine z_idiv (e := q / 1000) rfl (by omega) (by omega) rfl ?_
          refine z_iload rfl rfl ?_
          refine z_pushI (z := 1000) rfl rfl ?_
          refine z_irem (e := q % 1000) rfl (by omega) (by omega) rfl ?_
          refine z_callVk (As := [_, _, _]) (v := tw T (cN J) p (q / 1000) (q % 1000)) rfl rfl rfl (Nat.le_of_ble_eq_true rfl) (Nat.le_of_ble_eq_true rfl) (twelfths_k (A := J) hR zK_r rfl rfl y3 t2 t1 (by omega) (by omega) (by omega)) (fun J2 hJ2 => ?_)
          have qt := @tw_r T (cN J) p (q / 1000) (q % 1000)
          refine z_iret rfl rfl ?_
          refine ⟨_, rfl, ?_⟩
          show zW _ _ _ _ [some (.ref 50), some (zi p), some (zi q)] _ _ _ _ _
          refine z_aload rfl rfl ?_
          refine z_iload rfl rfl ?_
          refine z_callVi (As := [_]) (le := [some _, some _]) rfl rfl rfl (Nat.le_of_ble_eq_true rfl) (Nat.le_of_ble_eq_true rfl) rfl ?_
          refine z_iload rfl rfl ?_
          refine z_pushI (z := 0) rfl rfl ?_
          refine z_aload rfl rfl ?_
          refine z_getI (v := J 8 2) rfl rfl ((hJ2 50 1 rfl).trans y2.symm) ?_
          refine z_pushI (z := 1) rfl rfl ?_
          refine z_isub (e := (J 8 2) - 1) rfl rfl ?_
          refine z_callSi (As := [_, _, _]) (le := [some _, some _, some _]) rfl rfl (Nat.le_of_ble_eq_true rfl) (Nat.le_of_ble_eq_true rfl) rfl ?_
          refine z_iload rfl rfl ?_
          refine z_iload rfl rfl ?_
          refine z_icmp_ltF rfl (by omega) (by decide) (by omega) ?_
          refine z_iload rfl rfl ?_
          refine z_iload rfl rfl ?_
          refine z_icmp_gtF rfl (by omega) (by omega) (by omega) ?_
          refine z_pushI (z := 1) rfl rfl ?_
          refine z_goto rfl ?_
          refine z_bret rfl rfl (by decide) ?_
          show zW _ _ _ _ _ _ _ _ _ _
          refine z_bret rfl rfl (by decide) ?_
          show zW _ _ _ _ _ _ _ _ _ _
          refine z_if_eqF rfl (by decide) (by decide) ?_
          refine z_iload rfl rfl ?_
          refine z_pushI (z := 0) rfl rfl ?_
          refine z_pushI (z := 999999) rfl rfl ?_
          refine z_callSi (As := [_, _, _]) (le := [some _, some _, some _]) rfl rfl (Nat.le_of_ble_eq_true rfl) (Nat.le_of_ble_eq_true rfl) rfl ?_
          refine z_iload rfl rfl ?_
          refine z_iload rfl rfl ?_
          refine z_icmp_ltF rfl (by omega) (by decide) (by omega) ?_
          refine z_iload rfl rfl ?_
          refine z_iload rfl rfl ?_
          refine z_icmp_gtF rfl (by omega) (by decide) (by omega) ?_
          refine z_pushI (z := 1) rfl rfl ?_
          refine z_goto rfl ?_
          refine z_bret rfl rfl (by decide) ?_
          show zW _ _ _ _ _ _ _ _ _ _
          refine z_if_eqF rfl (by decide) (by decide) ?_
          refine z_aload rfl rfl ?_
          refine z_iload rfl rfl ?_
          refine z_iload rfl rfl ?_
          refine z_pushI (z := 1000) rfl rfl ?_
          refine z_idiv (e := q / 1000) rfl (by omega) (by omega) rfl ?_
          refine z_iload rfl rfl ?_
          refine z_pushI (z := 1000) rfl rfl ?_
          refine z_irem (e := q % 1000) rfl (by omega) (by omega) rfl ?_
          refine z_callVk (As := [_, _, _]) (v := tw T (cN J) p (q / 1000) (q % 1000)) rfl rfl rfl (Nat.le_of_ble_eq_true rfl) (Nat.le_of_ble_eq_true rfl) (hearsBy_k (A := J) (n := J 8 2) hRr hJ2 y1.symm y2.symm y3 t3 t1 (by omega) (by omega) (by omega)) (fun J4 hJ4 => ?_)
          refine z_goto rfl ?_
          refine z_iret rfl rfl ?_
          refine ⟨?_, ?_⟩
          · first | rfl | exact congrArg (fun v => some (zi v)) (by omega) | (exfalso; omega)
          · exact Rel_S (zK_m hJ4 kS_T) zK_r hr
        · refine z_pushI (z := (-1)) rfl rfl ?_
          refine z_iret rfl rfl ?_
          refine ⟨_, rfl, ?_⟩
          show zW _ _ _ _ [some (.ref 50), some (zi p), some (zi q)] _ _ _ _ _
          refine z_aload rfl rfl ?_
          refine z_iload rfl rfl ?_
          refine z_callVi (As := [_]) (le := [some _, some _]) rfl rfl rfl (Nat.le_of_ble_eq_true rfl) (Nat.le_of_ble_eq_true rfl) rfl ?_
          refine z_iload rfl rfl ?_
          refine z_pushI (z := 0) rfl rfl ?_
          refine z_aload rfl rfl ?_
          refine z_getI (v := J 8 2) rfl rfl (y2.symm) ?_
          refine z_pushI (z := 1) rfl rfl ?_
          refine z_isub (e := (J 8 2) - 1) rfl rfl ?_
          refine z_callSi (As := [_, _, _]) (le := [some _, some _, some _]) rfl rfl (Nat.le_of_ble_eq_true rfl) (Nat.le_of_ble_eq_true rfl) rfl ?_
          refine z_iload rfl rfl ?_
          refine z_iload rfl rfl ?_
          refine z_icmp_ltF rfl (by omega) (by decide) (by omega) ?_
          refine z_iload rfl rfl ?_
          refine z_iload rfl rfl ?_
          refine z_icmp_gtF rfl (by omega) (by omega) (by omega) ?_
          refine z_pushI (z := 1) rfl rfl ?_
          refine z_goto rfl ?_
          refine z_bret rfl rfl (by decide) ?_
          show zW _ _ _ _ _ _ _ _ _ _
          refine z_bret rfl rfl (by decide) ?_
          show zW _ _ _ _ _ _ _ _ _ _
          refine z_if_eqF rfl (by decide) (by decide) ?_
          refine z_iload rfl rfl ?_
          refine z_pushI (z := 0) rfl rfl ?_
          refine z_pushI (z := 999999) rfl rfl ?_
          refine z_callSi (As := [_, _, _]) (le := [some _, some _, some _]) rfl rfl (Nat.le_of_ble_eq_true rfl) (Nat.le_of_ble_eq_true rfl) rfl ?_
          refine z_iload rfl rfl ?_
          refine z_iload rfl rfl ?_
          refine z_icmp_ltF rfl (by omega) (by decide) (by omega) ?_
          refine z_iload rfl rfl ?_
          refine z_iload rfl rfl ?_
          refine z_icmp_gtT rfl (by omega) (by decide) (by omega) ?_
          refine z_pushI (z := 0) rfl rfl ?_
          refine z_bret rfl rfl (by decide) ?_
          show zW _ _ _ _ _ _ _ _ _ _
          refine z_if_eqT rfl (by decide) (by decide) ?_
          refine z_pushI (z := (-1)) rfl rfl ?_
          refine z_iret rfl rfl ?_
          refine ⟨?_, ?_⟩
          · first | rfl | exact congrArg (fun v => some (zi v)) (by omega) | (exfalso; omega)
          · exact hr
