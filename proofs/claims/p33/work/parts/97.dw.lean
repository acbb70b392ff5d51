theorem tEnd_v {T : zX} {N : Int → Int → Int} {n : Int} {b : Int → Int} {z w : Int} {K : Nat} (v : Int) (h : tEnd T N n b w z K) : tEnd T N n b v z K := ⟨fun k hk => tOk_w v (h.1 k hk), fun q => h.2 (tOk_w w q)⟩
theorem st_drawn_n {X : Nat × (Nat → Int32)} {d : Nat} {J M : zA} {R : zR} {s sd c v : Int} (hr : Rel X J M R) (hs : -2147483648 ≤ s ∧ s < 2147483648) (hsd : -2147483648 ≤ sd ∧ sd < 2147483648) (hc : -2147483648 ≤ c ∧ c < 2147483648) (hv : -2147483648 ≤ v ∧ v < 2147483648) (hs6 : ¬ (0 ≤ s ∧ s < 6)) : zW X (d + 20) 123 0 (gEn 123 [(.ref 0), (zi s), (zi sd), (zi c), (zi v)]) [] J M R (stP X (d + 20) 221 [(zi s), (zi sd), (zi c), (zi v)]) := by
  have hr0 := hr
  obtain ⟨hR, hG, hY, hD, hP, hC, hAc, hS, hTp, hX, hW⟩ := hr0
  have hRr : zRoR R := zRoR_of hR
  have hY0 := hY
  obtain ⟨y1, y2, y3⟩ := hY0
  have yn := zNn y3
  show zW _ _ _ _ [some (.ref 0), some (zi s), some (zi sd), some (zi c), some (zi v), none] _ _ _ _ _
  refine z_iload rfl rfl ?_
  refine z_callSi (As := [_]) (le := [some _]) rfl rfl (Nat.le_of_ble_eq_true rfl) (Nat.le_of_ble_eq_true rfl) rfl ?_
  refine z_iload rfl rfl ?_
  refine z_if_lt rfl (by omega) (fun h1 => ?_) (fun h1 => ?_)
  · refine z_pushI (z := 0) rfl rfl ?_
    refine z_bret rfl rfl (by decide) ?_
    show zW _ _ _ _ _ _ _ _ _ _
    refine z_if_eqT rfl (by decide) (by decide) ?_
    refine z_pushI (z := (-1)) rfl rfl ?_
    refine z_iret rfl rfl ?_
    refine ⟨_, rfl, ?_⟩
    show zW _ _ _ _ [some (.ref 50), some (zi s), some (zi sd), some (zi c), some (zi v), none, none, none, none, none, none] _ _ _ _ _
    refine z_iload rfl rfl ?_
    refine z_callSi (As := [_]) (le := [some _]) rfl rfl (Nat.le_of_ble_eq_true rfl) (Nat.le_of_ble_eq_true rfl) rfl ?_
    refine z_iload rfl rfl ?_
    refine z_pushI (z := 0) rfl rfl ?_
    refine z_pushI (z := 5) rfl rfl ?_
    refine z_callSi (As := [_, _, _]) (le := [some _, some _, some _]) rfl rfl (Nat.le_of_ble_eq_true rfl) (Nat.le_of_ble_eq_true rfl) rfl ?_
    refine z_iload rfl rfl ?_
    refine z_iload rfl rfl ?_
    refine z_icmp_ltT rfl (by omega) (by decide) (by omega) ?_
    refine z_pushI (z := 0) rfl rfl ?_
    refine z_bret rfl rfl (by decide) ?_
    show zW _ _ _ _ _ _ _ _ _ _
    refine z_bret rfl rfl (by decide) ?_
    show zW _ _ _ _ _ _ _ _ _ _
    refine z_if_eqT rfl (by decide) (by decide) ?_
    refine z_pushI (z := (-1)) rfl rfl ?_
    refine z_iret rfl rfl ?_
    refine ⟨?_, ?_⟩
    · first | rfl | exact congrArg (fun v => some (zi v)) (by omega) | (exfalso; omega)
    · exact hr
  · refine z_iload rfl rfl ?_
    refine z_pushI (z := 6) rfl rfl ?_
    refine z_icmp_geT rfl (by omega) (by decide) (by omega) ?_
    refine z_pushI (z := 0) rfl rfl ?_
    refine z_bret rfl rfl (by decide) ?_
    show zW _ _ _ _ _ _ _ _ _ _
    refine z_if_eqT rfl (by decide) (by decide) ?_
    refine z_pushI (z := (-1)) rfl rfl ?_
    refine z_iret rfl rfl ?_
    refine ⟨_, rfl, ?_⟩
    show zW _ _ _ _ [some (.ref 50), some (zi s), some (zi sd), some (zi c), some (zi v), none, none, none, none, none, none] _ _ _ _ _
    refine z_iload rfl rfl ?_
    refine z_callSi (As := [_]) (le := [some _]) rfl rfl (Nat.le_of_ble_eq_true rfl) (Nat.le_of_ble_eq_true rfl) rfl ?_
    refine z_iload rfl rfl ?_
    refine z_pushI (z := 0) rfl rfl ?_
    refine z_pushI (z := 5) rfl rfl ?_
    refine z_callSi (As := [_, _, _]) (le := [some _, some _, some _]) rfl rfl (Nat.le_of_ble_eq_true rfl) (Nat.le_of_ble_eq_true rfl) rfl ?_
    refine z_iload rfl rfl ?_
    refine z_iload rfl rfl ?_
    refine z_icmp_ltF rfl (by omega) (by decide) (by omega) ?_
    refine z_iload rfl rfl ?_
    refine z_iload rfl rfl ?_
    refine z_icmp_gtT rfl (by omega) (by decide) (by omega) ?_
    refine z_pushI (z := 0) rfl rfl ?_
    refine z_bret rfl rfl (by decide) ?_
    show zW _ _ _ _ _ _ _ _ _ _
    refine z_bret rfl rfl (by decide) ?_
    show zW _ _ _ _ _ _ _ _ _ _
    refine z_if_eqT rfl (by decide) (by decide) ?_
    refine z_pushI (z := (-1)) rfl rfl ?_
    refine z_iret rfl rfl ?_
    refine ⟨?_, ?_⟩
    · first | rfl | exact congrArg (fun v => some (zi v)) (by omega) | (exfalso; omega)
    · exact hr
theorem st_drawn_0 {X : Nat × (Nat → Int32)} {d : Nat} {J M : zA} {R : zR} {s sd c v : Int} (hr : Rel X J M R) (hs : -2147483648 ≤ s ∧ s < 2147483648) (hsd : -2147483648 ≤ sd ∧ sd < 2147483648) (hc : -2147483648 ≤ c ∧ c < 2147483648) (hv : -2147483648 ≤ v ∧ v < 2147483648) (hs6 : 0 ≤ s ∧ s < 6) (hh : J (38 + 2 * s.toNat) 0 = 0) : zW X (d + 20) 123 0 (gEn 123 [(.ref 0), (zi s), (zi sd), (zi c), (zi v)]) [] J M R (stP X (d + 20) 221 [(zi s), (zi sd), (zi c), (zi v)]) := by
  have hr0 := hr
  obtain ⟨hR, hG, hY, hD, hP, hC, hAc, hS, hTp, hX, hW⟩ := hr0
  have hRr : zRoR R := zRoR_of hR
  have hY0 := hY
  obtain ⟨y1, y2, y3⟩ := hY0
  have yn := zNn y3
  have hA0 := hAc
  obtain ⟨a1, a2, a3, a4, a5, a6⟩ := hA0
  have e83 : J 83 s = -1 := (hS s hs6.1 hs6.2).1.symm.trans (cH_0 hh)
  have s3 : 0 ≤ J (38 + 2 * s.toNat) 2 ∧ J (38 + 2 * s.toNat) 2 ≤ 4 := (hS s hs6.1 hs6.2).2.2.1
  have s4 : 0 ≤ J (38 + 2 * s.toNat) 3 ∧ J (38 + 2 * s.toNat) 3 ≤ 60 := (hS s hs6.1 hs6.2).2.2.2.1
  show zW _ _ _ _ [some (.ref 0), some (zi s), some (zi sd), some (zi c), some (zi v), none] _ _ _ _ _
  refine z_iload rfl rfl ?_
  refine z_callSi (As := [_]) (le := [some _]) rfl rfl (Nat.le_of_ble_eq_true rfl) (Nat.le_of_ble_eq_true rfl) rfl ?_
  refine z_iload rfl rfl ?_
  refine z_if_ltF rfl (by omega) (by omega) ?_
  refine z_iload rfl rfl ?_
  refine z_pushI (z := 6) rfl rfl ?_
  refine z_icmp_geF rfl (by omega) (by decide) (by omega) ?_
  refine z_pushI (z := 1) rfl rfl ?_
  refine z_goto rfl ?_
  refine z_bret rfl rfl (by decide) ?_
  show zW _ _ _ _ _ _ _ _ _ _
  refine z_if_eqF rfl (by decide) (by decide) ?_
  refine z_iload rfl rfl ?_
  refine z_pushI (z := 1) rfl rfl ?_
  refine z_icmp_lt rfl (by omega) (by decide) (fun h1 => ?_) (fun h1 => ?_)
  · refine z_pushI (z := (-1)) rfl rfl ?_
    refine z_iret rfl rfl ?_
    refine ⟨_, rfl, ?_⟩
    show zW _ _ _ _ [some (.ref 50), some (zi s), some (zi sd), some (zi c), some (zi v), none, none, none, none, none, none] _ _ _ _ _
    refine z_iload rfl rfl ?_
    refine z_callSi (As := [_]) (le := [some _]) rfl rfl (Nat.le_of_ble_eq_true rfl) (Nat.le_of_ble_eq_true rfl) rfl ?_
    refine z_iload rfl rfl ?_
    refine z_pushI (z := 0) rfl rfl ?_
    refine z_pushI (z := 5) rfl rfl ?_
    refine z_callSi (As := [_, _, _]) (le := [some _, some _, some _]) rfl rfl (Nat.le_of_ble_eq_true rfl) (Nat.le_of_ble_eq_true rfl) rfl ?_
    refine z_iload rfl rfl ?_
    refine z_iload rfl rfl ?_
    refine z_icmp_ltF rfl (by omega) (by decide) (by omega) ?_
    refine z_iload rfl rfl ?_
    refine z_iload rfl rfl ?_
    refine z_icmp_gtF rfl (by omega) (by decide) (by omega) ?_
    refine z_pushI (z := 1) rfl rfl ?_
    refine z_goto rfl ?_
    refine z_bret rfl rfl (by decide) ?_
    show zW _ _ _ _ _ _ _ _ _ _
    refine z_bret rfl rfl (by decide) ?_
    show zW _ _ _ _ _ _ _ _ _ _
    refine z_if_eqF rfl (by decide) (by decide) ?_
    refine z_iload rfl rfl ?_
    refine z_pushI (z := 1) rfl rfl ?_
    refine z_pushI (z := 30) rfl rfl ?_
    refine z_callSi (As := [_, _, _]) (le := [some _, some _, some _]) rfl rfl (Nat.le_of_ble_eq_true rfl) (Nat.le_of_ble_eq_true rfl) rfl ?_
    refine z_iload rfl rfl ?_
    refine z_iload rfl rfl ?_
    refine z_icmp_ltT rfl (by omega) (by decide) (by omega) ?_
    refine z_pushI (z := 0) rfl rfl ?_
    refine z_bret rfl rfl (by decide) ?_
    show zW _ _ _ _ _ _ _ _ _ _
    refine z_if_eqT rfl (by decide) (by decide) ?_
    refine z_pushI (z := (-1)) rfl rfl ?_
    refine z_iret rfl rfl ?_
    refine ⟨?_, ?_⟩
    · first | rfl | exact congrArg (fun v => some (zi v)) (by omega) | (exfalso; omega)
    · exact hr
  · refine z_iload rfl rfl ?_
    refine z_pushI (z := 30) rfl rfl ?_
    refine z_icmp_gt rfl (by omega) (by decide) (fun h2 => ?_) (fun h2 => ?_)
    · refine z_pushI (z := (-1)) rfl rfl ?_
      refine z_iret rfl rfl ?_
      refine ⟨_, rfl, ?_⟩
      show zW _ _ _ _ [some (.ref 50), some (zi s), some (zi sd), some (zi c), some (zi v), none, none, none, none, none, none] _ _ _ _ _
      refine z_iload rfl rfl ?_
      refine z_callSi (As := [_]) (le := [some _]) rfl rfl (Nat.le_of_ble_eq_true rfl) (Nat.le_of_ble_eq_true rfl) rfl ?_
      refine z_iload rfl rfl ?_
      refine z_pushI (z := 0) rfl rfl ?_
      refine z_pushI (z := 5) rfl rfl ?_
      refine z_callSi (As := [_, _, _]) (le := [some _, some _, some _]) rfl rfl (Nat.le_of_ble_eq_true rfl) (Nat.le_of_ble_eq_true rfl) rfl ?_
      refine z_iload rfl rfl ?_
      refine z_iload rfl rfl ?_
      refine z_icmp_ltF rfl (by omega) (by decide) (by omega) ?_
      refine z_iload rfl rfl ?_
      refine z_iload rfl rfl ?_
      refine z_icmp_gtF rfl (by omega) (by decide) (by omega) ?_
      refine z_pushI (z := 1) rfl rfl ?_
      refine z_goto rfl ?_
      refine z_bret rfl rfl (by decide) ?_
      show zW _ _ _ _ _ _ _ _ _ _
      refine z_bret rfl rfl (by decide) ?_
      show zW _ _ _ _ _ _ _ _ _ _
      refine z_if_eqF rfl (by decide) (by decide) ?_
      refine z_iload rfl rfl ?_
      refine z_pushI (z := 1) rfl rfl ?_
      refine z_pushI (z := 30) rfl rfl ?_
      refine z_callSi (As := [_, _, _]) (le := [some _, some _, some _]) rfl rfl (Nat.le_of_ble_eq_true rfl) (Nat.le_of_ble_eq_true rfl) rfl ?_
      refine z_iload rfl rfl ?_
      refine z_iload rfl rfl ?_
      refine z_icmp_ltF rfl (by omega) (by decide) (by omega) ?_
      refine z_iload rfl rfl ?_
      refine z_iload rfl rfl ?_
      refine z_icmp_gtT rfl (by omega) (by decide) (by omega) ?_
      refine z_pushI (z := 0) rfl rfl ?_
      refine z_bret rfl rfl (by decide) ?_
      show zW _ _ _ _ _ _ _ _ _ _
      refine z_if_eqT rfl (by decide) (by decide) ?_
      refine z_pushI (z := (-1)) rfl rfl ?_
      refine z_iret rfl rfl ?_
      refine ⟨?_, ?_⟩
      · first | rfl | exact congrArg (fun v => some (zi v)) (by omega) | (exfalso; omega)
      · exact hr
    · refine z_iload rfl rfl ?_
      refine z_callSi (As := [_]) (le := [some _]) rfl rfl (Nat.le_of_ble_eq_true rfl) (Nat.le_of_ble_eq_true rfl) rfl ?_
      refine z_iload rfl rfl ?_
      refine z_if_eq rfl (by omega) (fun h3 => ?_) (fun h3 => ?_)
      · refine z_pushI (z := 1) rfl rfl ?_
        refine z_goto rfl ?_
        refine z_bret rfl rfl (by decide) ?_
        show zW _ _ _ _ _ _ _ _ _ _
        refine z_if_neT rfl (by decide) (by decide) ?_
        refine z_aload rfl rfl ?_
        refine z_getR (r := 10) rfl rfl (hR _ rm_0_2) ?_
        refine z_aload rfl rfl ?_
        refine z_getR (r := 37) rfl rfl (hR _ rm_0_11) ?_
        refine z_iload rfl rfl ?_
        refine z_aald (r := 38 + 2 * s.toNat) rfl rfl (by decide) (by omega) (rr_shelf hR (by omega)) ?_
        refine z_callVi (As := [_]) (le := [some _, some _, none, none, none]) rfl rfl rfl (Nat.le_of_ble_eq_true rfl) (Nat.le_of_ble_eq_true rfl) rfl ?_
        refine z_aload rfl rfl ?_
        refine z_callVi (As := []) (le := [some _]) rfl rfl (zk_shelf (by omega)) (Nat.le_of_ble_eq_true rfl) (Nat.le_of_ble_eq_true rfl) rfl ?_
        refine z_aload rfl rfl ?_
        refine z_getI (v := 0) rfl (zk_shelf (by omega)) (hh) ?_
        refine z_if_neF rfl (by decide) (by decide) ?_
        refine z_pushI (z := (-11)) rfl rfl ?_
        refine z_iret rfl rfl ?_
        show zW _ _ _ _ _ _ _ _ _ _
        refine z_istore rfl rfl ?_
        refine z_iload rfl rfl ?_
        refine z_if_geF rfl (by decide) (by decide) ?_
        refine z_iload rfl rfl ?_
        refine z_iret rfl rfl ?_
        show zW _ _ _ _ _ _ _ _ _ _
        refine z_istore rfl rfl ?_
        refine z_iload rfl rfl ?_
        refine z_if_geF rfl (by decide) (by decide) ?_
        refine z_iload rfl rfl ?_
        refine z_iret rfl rfl ?_
        refine ⟨_, rfl, ?_⟩
        show zW _ _ _ _ [some (.ref 50), some (zi s), some (zi sd), some (zi c), some (zi v), none, none, none, none, none, none] _ _ _ _ _
        refine z_iload rfl rfl ?_
        refine z_callSi (As := [_]) (le := [some _]) rfl rfl (Nat.le_of_ble_eq_true rfl) (Nat.le_of_ble_eq_true rfl) rfl ?_
        refine z_iload rfl rfl ?_
        refine z_pushI (z := 0) rfl rfl ?_
        refine z_pushI (z := 5) rfl rfl ?_
        refine z_callSi (As := [_, _, _]) (le := [some _, some _, some _]) rfl rfl (Nat.le_of_ble_eq_true rfl) (Nat.le_of_ble_eq_true rfl) rfl ?_
        refine z_iload rfl rfl ?_
        refine z_iload rfl rfl ?_
        refine z_icmp_ltF rfl (by omega) (by decide) (by omega) ?_
        refine z_iload rfl rfl ?_
        refine z_iload rfl rfl ?_
        refine z_icmp_gtF rfl (by omega) (by decide) (by omega) ?_
        refine z_pushI (z := 1) rfl rfl ?_
        refine z_goto rfl ?_
        refine z_bret rfl rfl (by decide) ?_
        show zW _ _ _ _ _ _ _ _ _ _
        refine z_bret rfl rfl (by decide) ?_
        show zW _ _ _ _ _ _ _ _ _ _
        refine z_if_eqF rfl (by decide) (by decide) ?_
        refine z_iload rfl rfl ?_
        refine z_pushI (z := 1) rfl rfl ?_
        refine z_pushI (z := 30) rfl rfl ?_
        refine z_callSi (As := [_, _, _]) (le := [some _, some _, some _]) rfl rfl (Nat.le_of_ble_eq_true rfl) (Nat.le_of_ble_eq_true rfl) rfl ?_
        refine z_iload rfl rfl ?_
        refine z_iload rfl rfl ?_
        refine z_icmp_ltF rfl (by omega) (by decide) (by omega) ?_
        refine z_iload rfl rfl ?_
        refine z_iload rfl rfl ?_
        refine z_icmp_gtF rfl (by omega) (by decide) (by omega) ?_
        refine z_pushI (z := 1) rfl rfl ?_
        refine z_goto rfl ?_
        refine z_bret rfl rfl (by decide) ?_
        show zW _ _ _ _ _ _ _ _ _ _
        refine z_if_eqF rfl (by decide) (by decide) ?_
        refine z_iload rfl rfl ?_
        refine z_pushI (z := 0) rfl rfl ?_
        refine z_pushI (z := 1) rfl rfl ?_
        refine z_callSi (As := [_, _, _]) (le := [some _, some _, some _]) rfl rfl (Nat.le_of_ble_eq_true rfl) (Nat.le_of_ble_eq_true rfl) rfl ?_
        refine z_iload rfl rfl ?_
        refine z_iload rfl rfl ?_
        refine z_icmp_ltF rfl (by omega) (by decide) (by omega) ?_
        refine z_iload rfl rfl ?_
        refine z_iload rfl rfl ?_
        refine z_icmp_gtF rfl (by omega) (by decide) (by omega) ?_
        refine z_pushI (z := 1) rfl rfl ?_
        refine z_goto rfl ?_
        refine z_bret rfl rfl (by decide) ?_
        show zW _ _ _ _ _ _ _ _ _ _
        refine z_if_neT rfl (by decide) (by decide) ?_
        refine z_aload rfl rfl ?_
        refine z_iload rfl rfl ?_
        refine z_callVi (As := [_]) (le := [some _, some _]) rfl rfl rfl (Nat.le_of_ble_eq_true rfl) (Nat.le_of_ble_eq_true rfl) rfl ?_
        refine z_aload rfl rfl ?_
        refine z_getR (r := 83) rfl rfl (hRr _ rm_50_58 (by decide)) ?_
        refine z_iload rfl rfl ?_
        refine z_iald (v := (-1)) rfl rfl (by decide) (by omega) (e83) ?_
        refine z_pushI (z := (-1)) rfl rfl ?_
        refine z_icmp_neF rfl (by decide) (by decide) (by decide) ?_
        refine z_pushI (z := (-11)) rfl rfl ?_
        refine z_goto rfl ?_
        refine z_iret rfl rfl ?_
        show zW _ _ _ _ _ _ _ _ _ _
        refine z_if_geF rfl (by decide) (by decide) ?_
        refine z_aload rfl rfl ?_
        refine z_iload rfl rfl ?_
        refine z_callVi (As := [_]) (le := [some _, some _]) rfl rfl rfl (Nat.le_of_ble_eq_true rfl) (Nat.le_of_ble_eq_true rfl) rfl ?_
        refine z_aload rfl rfl ?_
        refine z_getR (r := 83) rfl rfl (hRr _ rm_50_58 (by decide)) ?_
        refine z_iload rfl rfl ?_
        refine z_iald (v := (-1)) rfl rfl (by decide) (by omega) (e83) ?_
        refine z_pushI (z := (-1)) rfl rfl ?_
        refine z_icmp_neF rfl (by decide) (by decide) (by decide) ?_
        refine z_pushI (z := (-11)) rfl rfl ?_
        refine z_goto rfl ?_
        refine z_iret rfl rfl ?_
        show zW _ _ _ _ _ _ _ _ _ _
        refine z_iret rfl rfl ?_
        refine ⟨?_, ?_⟩
        · first | rfl | exact congrArg (fun v => some (zi v)) (by omega) | (exfalso; omega)
        · exact hr
      · refine z_iload rfl rfl ?_
        refine z_pushI (z := 1) rfl rfl ?_
        refine z_icmp_ne rfl (by omega) (by decide) (fun h4 => ?_) (fun h4 => ?_)
        · refine z_pushI (z := 0) rfl rfl ?_
          refine z_bret rfl rfl (by decide) ?_
          show zW _ _ _ _ _ _ _ _ _ _
          refine z_if_neF rfl (by decide) (by decide) ?_
          refine z_pushI (z := (-1)) rfl rfl ?_
          refine z_iret rfl rfl ?_
          refine ⟨_, rfl, ?_⟩
          show zW _ _ _ _ [some (.ref 50), some (zi s), some (zi sd), some (zi c), some (zi v), none, none, none, none, none, none] _ _ _ _ _
          refine z_iload rfl rfl ?_
          refine z_callSi (As := [_]) (le := [some _]) rfl rfl (Nat.le_of_ble_eq_true rfl) (Nat.le_of_ble_eq_true rfl) rfl ?_
          refine z_iload rfl rfl ?_
          refine z_pushI (z := 0) rfl rfl ?_
          refine z_pushI (z := 5) rfl rfl ?_
          refine z_callSi (As := [_, _, _]) (le := [some _, some _, some _]) rfl rfl (Nat.le_of_ble_eq_true rfl) (Nat.le_of_ble_eq_true rfl) rfl ?_
          refine z_iload rfl rfl ?_
          refine z_iload rfl rfl ?_
          refine z_icmp_ltF rfl (by omega) (by decide) (by omega) ?_
          refine z_iload rfl rfl ?_
          refine z_iload rfl rfl ?_
          refine z_icmp_gtF rfl (by omega) (by decide) (by omega) ?_
          refine z_pushI (z := 1) rfl rfl ?_
          refine z_goto rfl ?_
          refine z_bret rfl rfl (by decide) ?_
          show zW _ _ _ _ _ _ _ _ _ _
          refine z_bret rfl rfl (by decide) ?_
          show zW _ _ _ _ _ _ _ _ _ _
          refine z_if_eqF rfl (by decide) (by decide) ?_
          refine z_iload rfl rfl ?_
          refine z_pushI (z := 1) rfl rfl ?_
          refine z_pushI (z := 30) rfl rfl ?_
          refine z_callSi (As := [_, _, _]) (le := [some _, some _, some _]) rfl rfl (Nat.le_of_ble_eq_true rfl) (Nat.le_of_ble_eq_true rfl) rfl ?_
          refine z_iload rfl rfl ?_
          refine z_iload rfl rfl ?_
          refine z_icmp_ltF rfl (by omega) (by decide) (by omega) ?_
          refine z_iload rfl rfl ?_
          refine z_iload rfl rfl ?_
          refine z_icmp_gtF rfl (by omega) (by decide) (by omega) ?_
          refine z_pushI (z := 1) rfl rfl ?_
          refine z_goto rfl ?_
          refine z_bret rfl rfl (by decide) ?_
          show zW _ _ _ _ _ _ _ _ _ _
          refine z_if_eqF rfl (by decide) (by decide) ?_
          refine z_iload rfl rfl ?_
          refine z_pushI (z := 0) rfl rfl ?_
          refine z_pushI (z := 1) rfl rfl ?_
          refine z_callSi (As := [_, _, _]) (le := [some _, some _, some _]) rfl rfl (Nat.le_of_ble_eq_true rfl) (Nat.le_of_ble_eq_true rfl) rfl ?_
          refine z_iload rfl rfl ?_
          refine z_iload rfl rfl ?_
          refine z_icmp_lt rfl (by omega) (by decide) (fun h5 => ?_) (fun h5 => ?_)
          · refine z_pushI (z := 0) rfl rfl ?_
            refine z_bret rfl rfl (by decide) ?_
            show zW _ _ _ _ _ _ _ _ _ _
            refine z_if_neF rfl (by decide) (by decide) ?_
            refine z_pushI (z := (-1)) rfl rfl ?_
            refine z_iret rfl rfl ?_
            refine ⟨?_, ?_⟩
            · first | rfl | exact congrArg (fun v => some (zi v)) (by omega) | (exfalso; omega)
            · exact hr
          · refine z_iload rfl rfl ?_
            refine z_iload rfl rfl ?_
            refine z_icmp_gt rfl (by omega) (by decide) (fun h6 => ?_) (fun h6 => ?_)
            · refine z_pushI (z := 0) rfl rfl ?_
              refine z_bret rfl rfl (by decide) ?_
              show zW _ _ _ _ _ _ _ _ _ _
              refine z_if_neF rfl (by decide) (by decide) ?_
              refine z_pushI (z := (-1)) rfl rfl ?_
              refine z_iret rfl rfl ?_
              refine ⟨?_, ?_⟩
              · first | rfl | exact congrArg (fun v => some (zi v)) (by omega) | (exfalso; omega)
              · exact hr
            · refine z_pushI (z := 1) rfl rfl ?_
              refine z_goto rfl ?_
              refine z_bret rfl rfl (by decide) ?_
              show zW _ _ _ _ _ _ _ _ _ _
              refine z_if_neT rfl (by decide) (by decide) ?_
              refine z_aload rfl rfl ?_
              refine z_iload rfl rfl ?_
              refine z_callVi (As := [_]) (le := [some _, some _]) rfl rfl rfl (Nat.le_of_ble_eq_true rfl) (Nat.le_of_ble_eq_true rfl) rfl ?_
              refine z_aload rfl rfl ?_
              refine z_getR (r := 83) rfl rfl (hRr _ rm_50_58 (by decide)) ?_
              refine z_iload rfl rfl ?_
              refine z_iald (v := (-1)) rfl rfl (by decide) (by omega) (e83) ?_
              refine z_pushI (z := (-1)) rfl rfl ?_
              refine z_icmp_neF rfl (by decide) (by decide) (by decide) ?_
              refine z_pushI (z := (-11)) rfl rfl ?_
              refine z_goto rfl ?_
              refine z_iret rfl rfl ?_
              show zW _ _ _ _ _ _ _ _ _ _
              refine z_if_geF rfl (by decide) (by decide) ?_
              refine z_aload rfl rfl ?_
              refine z_iload rfl rfl ?_
              refine z_callVi (As := [_]) (le := [some _, some _]) rfl rfl rfl (Nat.le_of_ble_eq_true rfl) (Nat.le_of_ble_eq_true rfl) rfl ?_
              refine z_aload rfl rfl ?_
              refine z_getR (r := 83) rfl rfl (hRr _ rm_50_58 (by decide)) ?_
              refine z_iload rfl rfl ?_
              refine z_iald (v := (-1)) rfl rfl (by decide) (by omega) (e83) ?_
              refine z_pushI (z := (-1)) rfl rfl ?_
              refine z_icmp_neF rfl (by decide) (by decide) (by decide) ?_
              refine z_pushI (z := (-11)) rfl rfl ?_
              refine z_goto rfl ?_
              refine z_iret rfl rfl ?_
              show zW _ _ _ _ _ _ _ _ _ _
              refine z_iret rfl rfl ?_
              refine ⟨?_, ?_⟩
              · first | rfl | exact congrArg (fun v => some (zi v)) (by omega) | (exfalso; omega)
              · exact hr
        · refine z_pushI (z := 1) rfl rfl ?_
          refine z_goto rfl ?_
          refine z_bret rfl rfl (by decide) ?_
          show zW _ _ _ _ _ _ _ _ _ _
          refine z_if_neT rfl (by decide) (by decide) ?_
          refine z_aload rfl rfl ?_
          refine z_getR (r := 10) rfl rfl (hR _ rm_0_2) ?_
          refine z_aload rfl rfl ?_
          refine z_getR (r := 37) rfl rfl (hR _ rm_0_11) ?_
          refine z_iload rfl rfl ?_
          refine z_aald (r := 38 + 2 * s.toNat) rfl rfl (by decide) (by omega) (rr_shelf hR (by omega)) ?_
          refine z_callVi (As := [_]) (le := [some _, some _, none, none, none]) rfl rfl rfl (Nat.le_of_ble_eq_true rfl) (Nat.le_of_ble_eq_true rfl) rfl ?_
          refine z_aload rfl rfl ?_
          refine z_callVi (As := []) (le := [some _]) rfl rfl (zk_shelf (by omega)) (Nat.le_of_ble_eq_true rfl) (Nat.le_of_ble_eq_true rfl) rfl ?_
          refine z_aload rfl rfl ?_
          refine z_getI (v := 0) rfl (zk_shelf (by omega)) (hh) ?_
          refine z_if_neF rfl (by decide) (by decide) ?_
          refine z_pushI (z := (-11)) rfl rfl ?_
          refine z_iret rfl rfl ?_
          show zW _ _ _ _ _ _ _ _ _ _
          refine z_istore rfl rfl ?_
          refine z_iload rfl rfl ?_
          refine z_if_geF rfl (by decide) (by decide) ?_
          refine z_iload rfl rfl ?_
          refine z_iret rfl rfl ?_
          show zW _ _ _ _ _ _ _ _ _ _
          refine z_istore rfl rfl ?_
          refine z_iload rfl rfl ?_
          refine z_if_geF rfl (by decide) (by decide) ?_
          refine z_iload rfl rfl ?_
          refine z_iret rfl rfl ?_
          refine ⟨_, rfl, ?_⟩
          show zW _ _ _ _ [some (.ref 50), some (zi s), some (zi sd), some (zi c), some (zi v), none, none, none, none, none, none] _ _ _ _ _
          refine z_iload rfl rfl ?_
          refine z_callSi (As := [_]) (le := [some _]) rfl rfl (Nat.le_of_ble_eq_true rfl) (Nat.le_of_ble_eq_true rfl) rfl ?_
          refine z_iload rfl rfl ?_
          refine z_pushI (z := 0) rfl rfl ?_
          refine z_pushI (z := 5) rfl rfl ?_
          refine z_callSi (As := [_, _, _]) (le := [some _, some _, some _]) rfl rfl (Nat.le_of_ble_eq_true rfl) (Nat.le_of_ble_eq_true rfl) rfl ?_
          refine z_iload rfl rfl ?_
          refine z_iload rfl rfl ?_
          refine z_icmp_ltF rfl (by omega) (by decide) (by omega) ?_
          refine z_iload rfl rfl ?_
          refine z_iload rfl rfl ?_
          refine z_icmp_gtF rfl (by omega) (by decide) (by omega) ?_
          refine z_pushI (z := 1) rfl rfl ?_
          refine z_goto rfl ?_
          refine z_bret rfl rfl (by decide) ?_
          show zW _ _ _ _ _ _ _ _ _ _
          refine z_bret rfl rfl (by decide) ?_
          show zW _ _ _ _ _ _ _ _ _ _
          refine z_if_eqF rfl (by decide) (by decide) ?_
          refine z_iload rfl rfl ?_
          refine z_pushI (z := 1) rfl rfl ?_
          refine z_pushI (z := 30) rfl rfl ?_
          refine z_callSi (As := [_, _, _]) (le := [some _, some _, some _]) rfl rfl (Nat.le_of_ble_eq_true rfl) (Nat.le_of_ble_eq_true rfl) rfl ?_
          refine z_iload rfl rfl ?_
          refine z_iload rfl rfl ?_
          refine z_icmp_ltF rfl (by omega) (by decide) (by omega) ?_
          refine z_iload rfl rfl ?_
          refine z_iload rfl rfl ?_
          refine z_icmp_gtF rfl (by omega) (by decide) (by omega) ?_
          refine z_pushI (z := 1) rfl rfl ?_
          refine z_goto rfl ?_
          refine z_bret rfl rfl (by decide) ?_
          show zW _ _ _ _ _ _ _ _ _ _
          refine z_if_eqF rfl (by decide) (by decide) ?_
          refine z_iload rfl rfl ?_
          refine z_pushI (z := 0) rfl rfl ?_
          refine z_pushI (z := 1) rfl rfl ?_
          refine z_callSi (As := [_, _, _]) (le := [some _, some _, some _]) rfl rfl (Nat.le_of_ble_eq_true rfl) (Nat.le_of_ble_eq_true rfl) rfl ?_
          refine z_iload rfl rfl ?_
          refine z_iload rfl rfl ?_
          refine z_icmp_ltF rfl (by omega) (by decide) (by omega) ?_
          refine z_iload rfl rfl ?_
          refine z_iload rfl rfl ?_
          refine z_icmp_gtF rfl (by omega) (by decide) (by omega) ?_
          refine z_pushI (z := 1) rfl rfl ?_
          refine z_goto rfl ?_
          refine z_bret rfl rfl (by decide) ?_
          show zW _ _ _ _ _ _ _ _ _ _
          refine z_if_neT rfl (by decide) (by decide) ?_
          refine z_aload rfl rfl ?_
          refine z_iload rfl rfl ?_
          refine z_callVi (As := [_]) (le := [some _, some _]) rfl rfl rfl (Nat.le_of_ble_eq_true rfl) (Nat.le_of_ble_eq_true rfl) rfl ?_
          refine z_aload rfl rfl ?_
          refine z_getR (r := 83) rfl rfl (hRr _ rm_50_58 (by decide)) ?_
          refine z_iload rfl rfl ?_
          refine z_iald (v := (-1)) rfl rfl (by decide) (by omega) (e83) ?_
          refine z_pushI (z := (-1)) rfl rfl ?_
          refine z_icmp_neF rfl (by decide) (by decide) (by decide) ?_
          refine z_pushI (z := (-11)) rfl rfl ?_
          refine z_goto rfl ?_
          refine z_iret rfl rfl ?_
          show zW _ _ _ _ _ _ _ _ _ _
          refine z_if_geF rfl (by decide) (by decide) ?_
          refine z_aload rfl rfl ?_
          refine z_iload rfl rfl ?_
          refine z_callVi (As := [_]) (le := [some _, some _]) rfl rfl rfl (Nat.le_of_ble_eq_true rfl) (Nat.le_of_ble_eq_true rfl) rfl ?_
          refine z_aload rfl rfl ?_
          refine z_getR (r := 83) rfl rfl (hRr _ rm_50_58 (by decide)) ?_
          refine z_iload rfl rfl ?_
          refine z_iald (v := (-1)) rfl rfl (by decide) (by omega) (e83) ?_
          refine z_pushI (z := (-1)) rfl rfl ?_
          refine z_icmp_neF rfl (by decide) (by decide) (by decide) ?_
          refine z_pushI (z := (-11)) rfl rfl ?_
          refine z_goto rfl ?_
          refine z_iret rfl rfl ?_
          show zW _ _ _ _ _ _ _ _ _ _
          refine z_iret rfl rfl ?_
          refine ⟨?_, ?_⟩
          · first | rfl | exact congrArg (fun v => some (zi v)) (by omega) | (exfalso; omega)
          · exact hr
theorem st_drawn_1 {X : Nat × (Nat → Int32)} {d : Nat} {J M : zA} {R : zR} {s sd c v : Int} (hr : Rel X J M R) (hs : -2147483648 ≤ s ∧ s < 2147483648) (hsd : -2147483648 ≤ sd ∧ sd < 2147483648) (hc : -2147483648 ≤ c ∧ c < 2147483648) (hv : -2147483648 ≤ v ∧ v < 2147483648) (hs6 : 0 ≤ s ∧ s < 6) (hh : J (38 + 2 * s.toNat) 0 = 1) : zW X (d + 20) 123 0 (gEn 123 [(.ref 0), (zi s), (zi sd), (zi c), (zi v)]) [] J M R (stP X (d + 20) 221 [(zi s), (zi sd), (zi c), (zi v)]) := by
  have hr0 := hr
  obtain ⟨hR, hG, hY, hD, hP, hC, hAc, hS, hTp, hX, hW⟩ := hr0
  have hRr : zRoR R := zRoR_of hR
  have hY0 := hY
  obtain ⟨y1, y2, y3⟩ := hY0
  have yn := zNn y3
  have hA0 := hAc
  obtain ⟨a1, a2, a3, a4, a5, a6⟩ := hA0
  have e83 : J 83 s = J (38 + 2 * s.toNat) 1 := (hS s hs6.1 hs6.2).1.symm.trans (cH_1 hh)
  have s3 : 0 ≤ J (38 + 2 * s.toNat) 2 ∧ J (38 + 2 * s.toNat) 2 ≤ 4 := (hS s hs6.1 hs6.2).2.2.1
  have s4 : 0 ≤ J (38 + 2 * s.toNat) 3 ∧ J (38 + 2 * s.toNat) 3 ≤ 60 := (hS s hs6.1 hs6.2).2.2.2.1
  have s5 : 0 ≤ J (38 + 2 * s.toNat) 1 ∧ J (38 + 2 * s.toNat) 1 < J 34 1 := (hS s hs6.1 hs6.2).2.2.2.2.1 hh
  show zW _ _ _ _ [some (.ref 0), some (zi s), some (zi sd), some (zi c), some (zi v), none] _ _ _ _ _
  refine z_iload rfl rfl ?_
  refine z_callSi (As := [_]) (le := [some _]) rfl rfl (Nat.le_of_ble_eq_true rfl) (Nat.le_of_ble_eq_true rfl) rfl ?_
  refine z_iload rfl rfl ?_
  refine z_if_ltF rfl (by omega) (by omega) ?_
  refine z_iload rfl rfl ?_
  refine z_pushI (z := 6) rfl rfl ?_
  refine z_icmp_geF rfl (by omega) (by decide) (by omega) ?_
  refine z_pushI (z := 1) rfl rfl ?_
  refine z_goto rfl ?_
  refine z_bret rfl rfl (by decide) ?_
  show zW _ _ _ _ _ _ _ _ _ _
  refine z_if_eqF rfl (by decide) (by decide) ?_
  refine z_iload rfl rfl ?_
  refine z_pushI (z := 1) rfl rfl ?_
  refine z_icmp_lt rfl (by omega) (by decide) (fun h1 => ?_) (fun h1 => ?_)
  · refine z_pushI (z := (-1)) rfl rfl ?_
    refine z_iret rfl rfl ?_
    refine ⟨_, rfl, ?_⟩
    show zW _ _ _ _ [some (.ref 50), some (zi s), some (zi sd), some (zi c), some (zi v), none, none, none, none, none, none] _ _ _ _ _
    refine z_iload rfl rfl ?_
    refine z_callSi (As := [_]) (le := [some _]) rfl rfl (Nat.le_of_ble_eq_true rfl) (Nat.le_of_ble_eq_true rfl) rfl ?_
    refine z_iload rfl rfl ?_
    refine z_pushI (z := 0) rfl rfl ?_
    refine z_pushI (z := 5) rfl rfl ?_
    refine z_callSi (As := [_, _, _]) (le := [some _, some _, some _]) rfl rfl (Nat.le_of_ble_eq_true rfl) (Nat.le_of_ble_eq_true rfl) rfl ?_
    refine z_iload rfl rfl ?_
    refine z_iload rfl rfl ?_
    refine z_icmp_ltF rfl (by omega) (by decide) (by omega) ?_
    refine z_iload rfl rfl ?_
    refine z_iload rfl rfl ?_
    refine z_icmp_gtF rfl (by omega) (by decide) (by omega) ?_
    refine z_pushI (z := 1) rfl rfl ?_
    refine z_goto rfl ?_
    refine z_bret rfl rfl (by decide) ?_
    show zW _ _ _ _ _ _ _ _ _ _
    refine z_bret rfl rfl (by decide) ?_
    show zW _ _ _ _ _ _ _ _ _ _
    refine z_if_eqF rfl (by decide) (by decide) ?_
    refine z_iload rfl rfl ?_
    refine z_pushI (z := 1) rfl rfl ?_
    refine z_pushI (z := 30) rfl rfl ?_
    refine z_callSi (As := [_, _, _]) (le := [some _, some _, some _]) rfl rfl (Nat.le_of_ble_eq_true rfl) (Nat.le_of_ble_eq_true rfl) rfl ?_
    refine z_iload rfl rfl ?_
    refine z_iload rfl rfl ?_
    refine z_icmp_ltT rfl (by omega) (by decide) (by omega) ?_
    refine z_pushI (z := 0) rfl rfl ?_
    refine z_bret rfl rfl (by decide) ?_
    show zW _ _ _ _ _ _ _ _ _ _
    refine z_if_eqT rfl (by decide) (by decide) ?_
    refine z_pushI (z := (-1)) rfl rfl ?_
    refine z_iret rfl rfl ?_
    refine ⟨?_, ?_⟩
    · first | rfl | exact congrArg (fun v => some (zi v)) (by omega) | (exfalso; omega)
    · exact hr
  · refine z_iload rfl rfl ?_
    refine z_pushI (z := 30) rfl rfl ?_
    refine z_icmp_gt rfl (by omega) (by decide) (fun h2 => ?_) (fun h2 => ?_)
    · refine z_pushI (z := (-1)) rfl rfl ?_
      refine z_iret rfl rfl ?_
      refine ⟨_, rfl, ?_⟩
      show zW _ _ _ _ [some (.ref 50), some (zi s), some (zi sd), some (zi c), some (zi v), none, none, none, none, none, none] _ _ _ _ _
      refine z_iload rfl rfl ?_
      refine z_callSi (As := [_]) (le := [some _]) rfl rfl (Nat.le_of_ble_eq_true rfl) (Nat.le_of_ble_eq_true rfl) rfl ?_
      refine z_iload rfl rfl ?_
      refine z_pushI (z := 0) rfl rfl ?_
      refine z_pushI (z := 5) rfl rfl ?_
      refine z_callSi (As := [_, _, _]) (le := [some _, some _, some _]) rfl rfl (Nat.le_of_ble_eq_true rfl) (Nat.le_of_ble_eq_true rfl) rfl ?_
      refine z_iload rfl rfl ?_
      refine z_iload rfl rfl ?_
      refine z_icmp_ltF rfl (by omega) (by decide) (by omega) ?_
      refine z_iload rfl rfl ?_
      refine z_iload rfl rfl ?_
      refine z_icmp_gtF rfl (by omega) (by decide) (by omega) ?_
      refine z_pushI (z := 1) rfl rfl ?_
      refine z_goto rfl ?_
      refine z_bret rfl rfl (by decide) ?_
      show zW _ _ _ _ _ _ _ _ _ _
      refine z_bret rfl rfl (by decide) ?_
      show zW _ _ _ _ _ _ _ _ _ _
      refine z_if_eqF rfl (by decide) (by decide) ?_
      refine z_iload rfl rfl ?_
      refine z_pushI (z := 1) rfl rfl ?_
      refine z_pushI (z := 30) rfl rfl ?_
      refine z_callSi (As := [_, _, _]) (le := [some _, some _, some _]) rfl rfl (Nat.le_of_ble_eq_true rfl) (Nat.le_of_ble_eq_true rfl) rfl ?_
      refine z_iload rfl rfl ?_
      refine z_iload rfl rfl ?_
      refine z_icmp_ltF rfl (by omega) (by decide) (by omega) ?_
      refine z_iload rfl rfl ?_
      refine z_iload rfl rfl ?_
      refine z_icmp_gtT rfl (by omega) (by decide) (by omega) ?_
      refine z_pushI (z := 0) rfl rfl ?_
      refine z_bret rfl rfl (by decide) ?_
      show zW _ _ _ _ _ _ _ _ _ _
      refine z_if_eqT rfl (by decide) (by decide) ?_
      refine z_pushI (z := (-1)) rfl rfl ?_
      refine z_iret rfl rfl ?_
      refine ⟨?_, ?_⟩
      · first | rfl | exact congrArg (fun v => some (zi v)) (by omega) | (exfalso; omega)
      · exact hr
    · refine z_iload rfl rfl ?_
      refine z_callSi (As := [_]) (le := [some _]) rfl rfl (Nat.le_of_ble_eq_true rfl) (Nat.le_of_ble_eq_true rfl) rfl ?_
      refine z_iload rfl rfl ?_
      refine z_if_eq rfl (by omega) (fun h3 => ?_) (fun h3 => ?_)
      · refine z_pushI (z := 1) rfl rfl ?_
        refine z_goto rfl ?_
        refine z_bret rfl rfl (by decide) ?_
        show zW _ _ _ _ _ _ _ _ _ _
        refine z_if_neT rfl (by decide) (by decide) ?_
        refine z_aload rfl rfl ?_
        refine z_getR (r := 10) rfl rfl (hR _ rm_0_2) ?_
        refine z_aload rfl rfl ?_
        refine z_getR (r := 37) rfl rfl (hR _ rm_0_11) ?_
        refine z_iload rfl rfl ?_
        refine z_aald (r := 38 + 2 * s.toNat) rfl rfl (by decide) (by omega) (rr_shelf hR (by omega)) ?_
        refine z_callVi (As := [_]) (le := [some _, some _, none, none, none]) rfl rfl rfl (Nat.le_of_ble_eq_true rfl) (Nat.le_of_ble_eq_true rfl) rfl ?_
        refine z_aload rfl rfl ?_
        refine z_callVi (As := []) (le := [some _]) rfl rfl (zk_shelf (by omega)) (Nat.le_of_ble_eq_true rfl) (Nat.le_of_ble_eq_true rfl) rfl ?_
        refine z_aload rfl rfl ?_
        refine z_getI (v := 1) rfl (zk_shelf (by omega)) (hh) ?_
        refine z_if_neT rfl (by decide) (by decide) ?_
        refine z_aload rfl rfl ?_
        refine z_callVi (As := []) (le := [some _]) rfl rfl (zk_shelf (by omega)) (Nat.le_of_ble_eq_true rfl) (Nat.le_of_ble_eq_true rfl) rfl ?_
        refine z_aload rfl rfl ?_
        refine z_getI (v := 1) rfl (zk_shelf (by omega)) (hh) ?_
        refine z_pushI (z := 2) rfl rfl ?_
        refine z_icmp_neT rfl (by decide) (by decide) (by decide) ?_
        refine z_pushI (z := 0) rfl rfl ?_
        refine z_bret rfl rfl (by decide) ?_
        show zW _ _ _ _ _ _ _ _ _ _
        refine z_if_eqT rfl (by decide) (by decide) ?_
        refine z_pushI (z := (-12)) rfl rfl ?_
        refine z_iret rfl rfl ?_
        show zW _ _ _ _ _ _ _ _ _ _
        refine z_istore rfl rfl ?_
        refine z_iload rfl rfl ?_
        refine z_if_geF rfl (by decide) (by decide) ?_
        refine z_iload rfl rfl ?_
        refine z_iret rfl rfl ?_
        show zW _ _ _ _ _ _ _ _ _ _
        refine z_istore rfl rfl ?_
        refine z_iload rfl rfl ?_
        refine z_if_geF rfl (by decide) (by decide) ?_
        refine z_iload rfl rfl ?_
        refine z_iret rfl rfl ?_
        refine ⟨_, rfl, ?_⟩
        show zW _ _ _ _ [some (.ref 50), some (zi s), some (zi sd), some (zi c), some (zi v), none, none, none, none, none, none] _ _ _ _ _
        refine z_iload rfl rfl ?_
        refine z_callSi (As := [_]) (le := [some _]) rfl rfl (Nat.le_of_ble_eq_true rfl) (Nat.le_of_ble_eq_true rfl) rfl ?_
        refine z_iload rfl rfl ?_
        refine z_pushI (z := 0) rfl rfl ?_
        refine z_pushI (z := 5) rfl rfl ?_
        refine z_callSi (As := [_, _, _]) (le := [some _, some _, some _]) rfl rfl (Nat.le_of_ble_eq_true rfl) (Nat.le_of_ble_eq_true rfl) rfl ?_
        refine z_iload rfl rfl ?_
        refine z_iload rfl rfl ?_
        refine z_icmp_ltF rfl (by omega) (by decide) (by omega) ?_
        refine z_iload rfl rfl ?_
        refine z_iload rfl rfl ?_
        refine z_icmp_gtF rfl (by omega) (by decide) (by omega) ?_
        refine z_pushI (z := 1) rfl rfl ?_
        refine z_goto rfl ?_
        refine z_bret rfl rfl (by decide) ?_
        show zW _ _ _ _ _ _ _ _ _ _
        refine z_bret rfl rfl (by decide) ?_
        show zW _ _ _ _ _ _ _ _ _ _
        refine z_if_eqF rfl (by decide) (by decide) ?_
        refine z_iload rfl rfl ?_
        refine z_pushI (z := 1) rfl rfl ?_
        refine z_pushI (z := 30) rfl rfl ?_
        refine z_callSi (As := [_, _, _]) (le := [some _, some _, some _]) rfl rfl (Nat.le_of_ble_eq_true rfl) (Nat.le_of_ble_eq_true rfl) rfl ?_
        refine z_iload rfl rfl ?_
        refine z_iload rfl rfl ?_
        refine z_icmp_ltF rfl (by omega) (by decide) (by omega) ?_
        refine z_iload rfl rfl ?_
        refine z_iload rfl rfl ?_
        refine z_icmp_gtF rfl (by omega) (by decide) (by omega) ?_
        refine z_pushI (z := 1) rfl rfl ?_
        refine z_goto rfl ?_
        refine z_bret rfl rfl (by decide) ?_
        show zW _ _ _ _ _ _ _ _ _ _
        refine z_if_eqF rfl (by decide) (by decide) ?_
        refine z_iload rfl rfl ?_
        refine z_pushI (z := 0) rfl rfl ?_
        refine z_pushI (z := 1) rfl rfl ?_
        refine z_callSi (As := [_, _, _]) (le := [some _, some _, some _]) rfl rfl (Nat.le_of_ble_eq_true rfl) (Nat.le_of_ble_eq_true rfl) rfl ?_
        refine z_iload rfl rfl ?_
        refine z_iload rfl rfl ?_
        refine z_icmp_ltF rfl (by omega) (by decide) (by omega) ?_
        refine z_iload rfl rfl ?_
        refine z_iload rfl rfl ?_
        refine z_icmp_gtF rfl (by omega) (by decide) (by omega) ?_
        refine z_pushI (z := 1) rfl rfl ?_
        refine z_goto rfl ?_
        refine z_bret rfl rfl (by decide) ?_
        show zW _ _ _ _ _ _ _ _ _ _
        refine z_if_neT rfl (by decide) (by decide) ?_
        refine z_aload rfl rfl ?_
        refine z_iload rfl rfl ?_
        refine z_callVi (As := [_]) (le := [some _, some _]) rfl rfl rfl (Nat.le_of_ble_eq_true rfl) (Nat.le_of_ble_eq_true rfl) rfl ?_
        refine z_aload rfl rfl ?_
        refine z_getR (r := 83) rfl rfl (hRr _ rm_50_58 (by decide)) ?_
        refine z_iload rfl rfl ?_
        refine z_iald (v := J (38 + 2 * s.toNat) 1) rfl rfl (by decide) (by omega) (e83) ?_
        refine z_pushI (z := (-1)) rfl rfl ?_
        refine z_icmp_ne rfl (by omega) (by decide) (fun h4 => ?_) (fun h4 => ?_)
        · refine z_aload rfl rfl ?_
          refine z_getR (r := 83) rfl rfl (hRr _ rm_50_58 (by decide)) ?_
          refine z_iload rfl rfl ?_
          refine z_iald (v := J (38 + 2 * s.toNat) 1) rfl rfl (by decide) (by omega) (e83) ?_
          refine z_pushI (z := (-2)) rfl rfl ?_
          refine z_icmp_ne rfl (by omega) (by decide) (fun h5 => ?_) (fun h5 => ?_)
          · refine z_pushI (z := (-12)) rfl rfl ?_
            refine z_iret rfl rfl ?_
            show zW _ _ _ _ _ _ _ _ _ _
            refine z_if_geF rfl (by decide) (by decide) ?_
            refine z_aload rfl rfl ?_
            refine z_iload rfl rfl ?_
            refine z_callVi (As := [_]) (le := [some _, some _]) rfl rfl rfl (Nat.le_of_ble_eq_true rfl) (Nat.le_of_ble_eq_true rfl) rfl ?_
            refine z_aload rfl rfl ?_
            refine z_getR (r := 83) rfl rfl (hRr _ rm_50_58 (by decide)) ?_
            refine z_iload rfl rfl ?_
            refine z_iald (v := J (38 + 2 * s.toNat) 1) rfl rfl (by decide) (by omega) (e83) ?_
            refine z_pushI (z := (-1)) rfl rfl ?_
            refine z_icmp_ne rfl (by omega) (by decide) (fun h6 => ?_) (fun h6 => ?_)
            · refine z_aload rfl rfl ?_
              refine z_getR (r := 83) rfl rfl (hRr _ rm_50_58 (by decide)) ?_
              refine z_iload rfl rfl ?_
              refine z_iald (v := J (38 + 2 * s.toNat) 1) rfl rfl (by decide) (by omega) (e83) ?_
              refine z_pushI (z := (-2)) rfl rfl ?_
              refine z_icmp_ne rfl (by omega) (by decide) (fun h7 => ?_) (fun h7 => ?_)
              · refine z_pushI (z := (-12)) rfl rfl ?_
                refine z_iret rfl rfl ?_
                show zW _ _ _ _ _ _ _ _ _ _
                refine z_iret rfl rfl ?_
                refine ⟨?_, ?_⟩
                · first | rfl | exact congrArg (fun v => some (zi v)) (by omega) | (exfalso; omega)
                · exact hr
              · refine z_pushI (z := 0) rfl rfl ?_
                refine z_goto rfl ?_
                refine z_iret rfl rfl ?_
                show zW _ _ _ _ _ _ _ _ _ _
                refine z_iret rfl rfl ?_
                refine ⟨?_, ?_⟩
                · first | rfl | exact congrArg (fun v => some (zi v)) (by omega) | (exfalso; omega)
                · exact hr
            · refine z_pushI (z := (-11)) rfl rfl ?_
              refine z_goto rfl ?_
              refine z_iret rfl rfl ?_
              show zW _ _ _ _ _ _ _ _ _ _
              refine z_iret rfl rfl ?_
              refine ⟨?_, ?_⟩
              · first | rfl | exact congrArg (fun v => some (zi v)) (by omega) | (exfalso; omega)
              · exact hr
          · refine z_pushI (z := 0) rfl rfl ?_
            refine z_goto rfl ?_
            refine z_iret rfl rfl ?_
            show zW _ _ _ _ _ _ _ _ _ _
            refine z_if_geT rfl (by decide) (by decide) ?_
            refine z_aload rfl rfl ?_
            refine z_iload rfl rfl ?_
            refine z_putI (y := 41) rfl rfl rfl ?_
            refine z_pushI (z := 0) rfl rfl ?_
            refine z_istore rfl rfl ?_
            refine z_pushI (z := 0) rfl rfl ?_
            refine z_istore rfl rfl ?_
            refine z_aload rfl rfl ?_
            exfalso
            omega
        · refine z_pushI (z := (-11)) rfl rfl ?_
          refine z_goto rfl ?_
          refine z_iret rfl rfl ?_
          show zW _ _ _ _ _ _ _ _ _ _
          refine z_if_geF rfl (by decide) (by decide) ?_
          refine z_aload rfl rfl ?_
          refine z_iload rfl rfl ?_
          refine z_callVi (As := [_]) (le := [some _, some _]) rfl rfl rfl (Nat.le_of_ble_eq_true rfl) (Nat.le_of_ble_eq_true rfl) rfl ?_
          refine z_aload rfl rfl ?_
          refine z_getR (r := 83) rfl rfl (hRr _ rm_50_58 (by decide)) ?_
          refine z_iload rfl rfl ?_
          refine z_iald (v := J (38 + 2 * s.toNat) 1) rfl rfl (by decide) (by omega) (e83) ?_
          refine z_pushI (z := (-1)) rfl rfl ?_
          refine z_icmp_neF rfl (by omega) (by decide) (by omega) ?_
          refine z_pushI (z := (-11)) rfl rfl ?_
          refine z_goto rfl ?_
          refine z_iret rfl rfl ?_
          show zW _ _ _ _ _ _ _ _ _ _
          refine z_iret rfl rfl ?_
          refine ⟨?_, ?_⟩
          · first | rfl | exact congrArg (fun v => some (zi v)) (by omega) | (exfalso; omega)
          · exact hr
      · refine z_iload rfl rfl ?_
        refine z_pushI (z := 1) rfl rfl ?_
        refine z_icmp_ne rfl (by omega) (by decide) (fun h4 => ?_) (fun h4 => ?_)
        · refine z_pushI (z := 0) rfl rfl ?_
          refine z_bret rfl rfl (by decide) ?_
          show zW _ _ _ _ _ _ _ _ _ _
          refine z_if_neF rfl (by decide) (by decide) ?_
          refine z_pushI (z := (-1)) rfl rfl ?_
          refine z_iret rfl rfl ?_
          refine ⟨_, rfl, ?_⟩
          show zW _ _ _ _ [some (.ref 50), some (zi s), some (zi sd), some (zi c), some (zi v), none, none, none, none, none, none] _ _ _ _ _
          refine z_iload rfl rfl ?_
          refine z_callSi (As := [_]) (le := [some _]) rfl rfl (Nat.le_of_ble_eq_true rfl) (Nat.le_of_ble_eq_true rfl) rfl ?_
          refine z_iload rfl rfl ?_
          refine z_pushI (z := 0) rfl rfl ?_
          refine z_pushI (z := 5) rfl rfl ?_
          refine z_callSi (As := [_, _, _]) (le := [some _, some _, some _]) rfl rfl (Nat.le_of_ble_eq_true rfl) (Nat.le_of_ble_eq_true rfl) rfl ?_
          refine z_iload rfl rfl ?_
          refine z_iload rfl rfl ?_
          refine z_icmp_ltF rfl (by omega) (by decide) (by omega) ?_
          refine z_iload rfl rfl ?_
          refine z_iload rfl rfl ?_
          refine z_icmp_gtF rfl (by omega) (by decide) (by omega) ?_
          refine z_pushI (z := 1) rfl rfl ?_
          refine z_goto rfl ?_
          refine z_bret rfl rfl (by decide) ?_
          show zW _ _ _ _ _ _ _ _ _ _
          refine z_bret rfl rfl (by decide) ?_
          show zW _ _ _ _ _ _ _ _ _ _
          refine z_if_eqF rfl (by decide) (by decide) ?_
          refine z_iload rfl rfl ?_
          refine z_pushI (z := 1) rfl rfl ?_
          refine z_pushI (z := 30) rfl rfl ?_
          refine z_callSi (As := [_, _, _]) (le := [some _, some _, some _]) rfl rfl (Nat.le_of_ble_eq_true rfl) (Nat.le_of_ble_eq_true rfl) rfl ?_
          refine z_iload rfl rfl ?_
          refine z_iload rfl rfl ?_
          refine z_icmp_ltF rfl (by omega) (by decide) (by omega) ?_
          refine z_iload rfl rfl ?_
          refine z_iload rfl rfl ?_
          refine z_icmp_gtF rfl (by omega) (by decide) (by omega) ?_
          refine z_pushI (z := 1) rfl rfl ?_
          refine z_goto rfl ?_
          refine z_bret rfl rfl (by decide) ?_
          show zW _ _ _ _ _ _ _ _ _ _
          refine z_if_eqF rfl (by decide) (by decide) ?_
          refine z_iload rfl rfl ?_
          refine z_pushI (z := 0) rfl rfl ?_
          refine z_pushI (z := 1) rfl rfl ?_
          refine z_callSi (As := [_, _, _]) (le := [some _, some _, some _]) rfl rfl (Nat.le_of_ble_eq_true rfl) (Nat.le_of_ble_eq_true rfl) rfl ?_
          refine z_iload rfl rfl ?_
          refine z_iload rfl rfl ?_
          refine z_icmp_lt rfl (by omega) (by decide) (fun h5 => ?_) (fun h5 => ?_)
          · refine z_pushI (z := 0) rfl rfl ?_
            refine z_bret rfl rfl (by decide) ?_
            show zW _ _ _ _ _ _ _ _ _ _
            refine z_if_neF rfl (by decide) (by decide) ?_
            refine z_pushI (z := (-1)) rfl rfl ?_
            refine z_iret rfl rfl ?_
            refine ⟨?_, ?_⟩
            · first | rfl | exact congrArg (fun v => some (zi v)) (by omega) | (exfalso; omega)
            · exact hr
          · refine z_iload rfl rfl ?_
            refine z_iload rfl rfl ?_
            refine z_icmp_gt rfl (by omega) (by decide) (fun h6 => ?_) (fun h6 => ?_)
            · refine z_pushI (z := 0) rfl rfl ?_
              refine z_bret rfl rfl (by decide) ?_
              show zW _ _ _ _ _ _ _ _ _ _
              refine z_if_neF rfl (by decide) (by decide) ?_
              refine z_pushI (z := (-1)) rfl rfl ?_
              refine z_iret rfl rfl ?_
              refine ⟨?_, ?_⟩
              · first | rfl | exact congrArg (fun v => some (zi v)) (by omega) | (exfalso; omega)
              · exact hr
            · refine z_pushI (z := 1) rfl rfl ?_
              refine z_goto rfl ?_
              refine z_bret rfl rfl (by decide) ?_
              show zW _ _ _ _ _ _ _ _ _ _
              refine z_if_neT rfl (by decide) (by decide) ?_
              refine z_aload rfl rfl ?_
              refine z_iload rfl rfl ?_
              refine z_callVi (As := [_]) (le := [some _, some _]) rfl rfl rfl (Nat.le_of_ble_eq_true rfl) (Nat.le_of_ble_eq_true rfl) rfl ?_
              refine z_aload rfl rfl ?_
              refine z_getR (r := 83) rfl rfl (hRr _ rm_50_58 (by decide)) ?_
              refine z_iload rfl rfl ?_
              refine z_iald (v := J (38 + 2 * s.toNat) 1) rfl rfl (by decide) (by omega) (e83) ?_
              refine z_pushI (z := (-1)) rfl rfl ?_
              refine z_icmp_ne rfl (by omega) (by decide) (fun h7 => ?_) (fun h7 => ?_)
              · refine z_aload rfl rfl ?_
                refine z_getR (r := 83) rfl rfl (hRr _ rm_50_58 (by decide)) ?_
                refine z_iload rfl rfl ?_
                refine z_iald (v := J (38 + 2 * s.toNat) 1) rfl rfl (by decide) (by omega) (e83) ?_
                refine z_pushI (z := (-2)) rfl rfl ?_
                refine z_icmp_ne rfl (by omega) (by decide) (fun h8 => ?_) (fun h8 => ?_)
                · refine z_pushI (z := (-12)) rfl rfl ?_
                  refine z_iret rfl rfl ?_
                  show zW _ _ _ _ _ _ _ _ _ _
                  refine z_if_geF rfl (by decide) (by decide) ?_
                  refine z_aload rfl rfl ?_
                  refine z_iload rfl rfl ?_
                  refine z_callVi (As := [_]) (le := [some _, some _]) rfl rfl rfl (Nat.le_of_ble_eq_true rfl) (Nat.le_of_ble_eq_true rfl) rfl ?_
                  refine z_aload rfl rfl ?_
                  refine z_getR (r := 83) rfl rfl (hRr _ rm_50_58 (by decide)) ?_
                  refine z_iload rfl rfl ?_
                  refine z_iald (v := J (38 + 2 * s.toNat) 1) rfl rfl (by decide) (by omega) (e83) ?_
                  refine z_pushI (z := (-1)) rfl rfl ?_
                  refine z_icmp_ne rfl (by omega) (by decide) (fun h9 => ?_) (fun h9 => ?_)
                  · refine z_aload rfl rfl ?_
                    refine z_getR (r := 83) rfl rfl (hRr _ rm_50_58 (by decide)) ?_
                    refine z_iload rfl rfl ?_
                    refine z_iald (v := J (38 + 2 * s.toNat) 1) rfl rfl (by decide) (by omega) (e83) ?_
                    refine z_pushI (z := (-2)) rfl rfl ?_
                    refine z_icmp_ne rfl (by omega) (by decide) (fun h10 => ?_) (fun h10 => ?_)
                    · refine z_pushI (z := (-12)) rfl rfl ?_
                      refine z_iret rfl rfl ?_
                      show zW _ _ _ _ _ _ _ _ _ _
                      refine z_iret rfl rfl ?_
                      refine ⟨?_, ?_⟩
                      · first | rfl | exact congrArg (fun v => some (zi v)) (by omega) | (exfalso; omega)
                      · exact hr
                    · refine z_pushI (z := 0) rfl rfl ?_
                      refine z_goto rfl ?_
                      refine z_iret rfl rfl ?_
                      show zW _ _ _ _ _ _ _ _ _ _
                      refine z_iret rfl rfl ?_
                      refine ⟨?_, ?_⟩
                      · first | rfl | exact congrArg (fun v => some (zi v)) (by omega) | (exfalso; omega)
                      · exact hr
                  · refine z_pushI (z := (-11)) rfl rfl ?_
                    refine z_goto rfl ?_
                    refine z_iret rfl rfl ?_
                    show zW _ _ _ _ _ _ _ _ _ _
                    refine z_iret rfl rfl ?_
                    refine ⟨?_, ?_⟩
                    · first | rfl | exact congrArg (fun v => some (zi v)) (by omega) | (exfalso; omega)
                    · exact hr
                · refine z_pushI (z := 0) rfl rfl ?_
                  refine z_goto rfl ?_
                  refine z_iret rfl rfl ?_
                  show zW _ _ _ _ _ _ _ _ _ _
                  refine z_if_geT rfl (by decide) (by decide) ?_
                  refine z_aload rfl rfl ?_
                  refine z_iload rfl rfl ?_
                  refine z_putI (y := 41) rfl rfl rfl ?_
                  refine z_pushI (z := 0) rfl rfl ?_
                  refine z_istore rfl rfl ?_
                  refine z_pushI (z := 0) rfl rfl ?_
                  refine z_istore rfl rfl ?_
                  refine z_aload rfl rfl ?_
                  exfalso
                  omega
              · refine z_pushI (z := (-11)) rfl rfl ?_
                refine z_goto rfl ?_
                refine z_iret rfl rfl ?_
                show zW _ _ _ _ _ _ _ _ _ _
                refine z_if_geF rfl (by decide) (by decide) ?_
                refine z_aload rfl rfl ?_
                refine z_iload rfl rfl ?_
                refine z_callVi (As := [_]) (le := [some _, some _]) rfl rfl rfl (Nat.le_of_ble_eq_true rfl) (Nat.le_of_ble_eq_true rfl) rfl ?_
                refine z_aload rfl rfl ?_
                refine z_getR (r := 83) rfl rfl (hRr _ rm_50_58 (by decide)) ?_
                refine z_iload rfl rfl ?_
                refine z_iald (v := J (38 + 2 * s.toNat) 1) rfl rfl (by decide) (by omega) (e83) ?_
                refine z_pushI (z := (-1)) rfl rfl ?_
                refine z_icmp_neF rfl (by omega) (by decide) (by omega) ?_
                refine z_pushI (z := (-11)) rfl rfl ?_
                refine z_goto rfl ?_
                refine z_iret rfl rfl ?_
                show zW _ _ _ _ _ _ _ _ _ _
                refine z_iret rfl rfl ?_
                refine ⟨?_, ?_⟩
                · first | rfl | exact congrArg (fun v => some (zi v)) (by omega) | (exfalso; omega)
                · exact hr
        · refine z_pushI (z := 1) rfl rfl ?_
          refine z_goto rfl ?_
          refine z_bret rfl rfl (by decide) ?_
          show zW _ _ _ _ _ _ _ _ _ _
          refine z_if_neT rfl (by decide) (by decide) ?_
          refine z_aload rfl rfl ?_
          refine z_getR (r := 10) rfl rfl (hR _ rm_0_2) ?_
          refine z_aload rfl rfl ?_
          refine z_getR (r := 37) rfl rfl (hR _ rm_0_11) ?_
          refine z_iload rfl rfl ?_
          refine z_aald (r := 38 + 2 * s.toNat) rfl rfl (by decide) (by omega) (rr_shelf hR (by omega)) ?_
          refine z_callVi (As := [_]) (le := [some _, some _, none, none, none]) rfl rfl rfl (Nat.le_of_ble_eq_true rfl) (Nat.le_of_ble_eq_true rfl) rfl ?_
          refine z_aload rfl rfl ?_
          refine z_callVi (As := []) (le := [some _]) rfl rfl (zk_shelf (by omega)) (Nat.le_of_ble_eq_true rfl) (Nat.le_of_ble_eq_true rfl) rfl ?_
          refine z_aload rfl rfl ?_
          refine z_getI (v := 1) rfl (zk_shelf (by omega)) (hh) ?_
          refine z_if_neT rfl (by decide) (by decide) ?_
          refine z_aload rfl rfl ?_
          refine z_callVi (As := []) (le := [some _]) rfl rfl (zk_shelf (by omega)) (Nat.le_of_ble_eq_true rfl) (Nat.le_of_ble_eq_true rfl) rfl ?_
          refine z_aload rfl rfl ?_
          refine z_getI (v := 1) rfl (zk_shelf (by omega)) (hh) ?_
          refine z_pushI (z := 2) rfl rfl ?_
          refine z_icmp_neT rfl (by decide) (by decide) (by decide) ?_
          refine z_pushI (z := 0) rfl rfl ?_
          refine z_bret rfl rfl (by decide) ?_
          show zW _ _ _ _ _ _ _ _ _ _
          refine z_if_eqT rfl (by decide) (by decide) ?_
          refine z_pushI (z := (-12)) rfl rfl ?_
          refine z_iret rfl rfl ?_
          show zW _ _ _ _ _ _ _ _ _ _
          refine z_istore rfl rfl ?_
          refine z_iload rfl rfl ?_
          refine z_if_geF rfl (by decide) (by decide) ?_
          refine z_iload rfl rfl ?_
          refine z_iret rfl rfl ?_
          show zW _ _ _ _ _ _ _ _ _ _
          refine z_istore rfl rfl ?_
          refine z_iload rfl rfl ?_
          refine z_if_geF rfl (by decide) (by decide) ?_
          refine z_iload rfl rfl ?_
          refine z_iret rfl rfl ?_
          refine ⟨_, rfl, ?_⟩
          show zW _ _ _ _ [some (.ref 50), some (zi s), some (zi sd), some (zi c), some (zi v), none, none, none, none, none, none] _ _ _ _ _
          refine z_iload rfl rfl ?_
          refine z_callSi (As := [_]) (le := [some _]) rfl rfl (Nat.le_of_ble_eq_true rfl) (Nat.le_of_ble_eq_true rfl) rfl ?_
          refine z_iload rfl rfl ?_
          refine z_pushI (z := 0) rfl rfl ?_
          refine z_pushI (z := 5) rfl rfl ?_
          refine z_callSi (As := [_, _, _]) (le := [some _, some _, some _]) rfl rfl (Nat.le_of_ble_eq_true rfl) (Nat.le_of_ble_eq_true rfl) rfl ?_
          refine z_iload rfl rfl ?_
          refine z_iload rfl rfl ?_
          refine z_icmp_ltF rfl (by omega) (by decide) (by omega) ?_
          refine z_iload rfl rfl ?_
          refine z_iload rfl rfl ?_
          refine z_icmp_gtF rfl (by omega) (by decide) (by omega) ?_
          refine z_pushI (z := 1) rfl rfl ?_
          refine z_goto rfl ?_
          refine z_bret rfl rfl (by decide) ?_
          show zW _ _ _ _ _ _ _ _ _ _
          refine z_bret rfl rfl (by decide) ?_
          show zW _ _ _ _ _ _ _ _ _ _
          refine z_if_eqF rfl (by decide) (by decide) ?_
          refine z_iload rfl rfl ?_
          refine z_pushI (z := 1) rfl rfl ?_
          refine z_pushI (z := 30) rfl rfl ?_
          refine z_callSi (As := [_, _, _]) (le := [some _, some _, some _]) rfl rfl (Nat.le_of_ble_eq_true rfl) (Nat.le_of_ble_eq_true rfl) rfl ?_
          refine z_iload rfl rfl ?_
          refine z_iload rfl rfl ?_
          refine z_icmp_ltF rfl (by omega) (by decide) (by omega) ?_
          refine z_iload rfl rfl ?_
          refine z_iload rfl rfl ?_
          refine z_icmp_gtF rfl (by omega) (by decide) (by omega) ?_
          refine z_pushI (z := 1) rfl rfl ?_
          refine z_goto rfl ?_
          refine z_bret rfl rfl (by decide) ?_
          show zW _ _ _ _ _ _ _ _ _ _
          refine z_if_eqF rfl (by decide) (by decide) ?_
          refine z_iload rfl rfl ?_
          refine z_pushI (z := 0) rfl rfl ?_
          refine z_pushI (z := 1) rfl rfl ?_
          refine z_callSi (As := [_, _, _]) (le := [some _, some _, some _]) rfl rfl (Nat.le_of_ble_eq_true rfl) (Nat.le_of_ble_eq_true rfl) rfl ?_
          refine z_iload rfl rfl ?_
          refine z_iload rfl rfl ?_
          refine z_icmp_ltF rfl (by omega) (by decide) (by omega) ?_
          refine z_iload rfl rfl ?_
          refine z_iload rfl rfl ?_
          refine z_icmp_gtF rfl (by omega) (by decide) (by omega) ?_
          refine z_pushI (z := 1) rfl rfl ?_
          refine z_goto rfl ?_
          refine z_bret rfl rfl (by decide) ?_
          show zW _ _ _ _ _ _ _ _ _ _
          refine z_if_neT rfl (by decide) (by decide) ?_
          refine z_aload rfl rfl ?_
          refine z_iload rfl rfl ?_
          refine z_callVi (As := [_]) (le := [some _, some _]) rfl rfl rfl (Nat.le_of_ble_eq_true rfl) (Nat.le_of_ble_eq_true rfl) rfl ?_
          refine z_aload rfl rfl ?_
          refine z_getR (r := 83) rfl rfl (hRr _ rm_50_58 (by decide)) ?_
          refine z_iload rfl rfl ?_
          refine z_iald (v := J (38 + 2 * s.toNat) 1) rfl rfl (by decide) (by omega) (e83) ?_
          refine z_pushI (z := (-1)) rfl rfl ?_
          refine z_icmp_ne rfl (by omega) (by decide) (fun h5 => ?_) (fun h5 => ?_)
          · refine z_aload rfl rfl ?_
            refine z_getR (r := 83) rfl rfl (hRr _ rm_50_58 (by decide)) ?_
            refine z_iload rfl rfl ?_
            refine z_iald (v := J (38 + 2 * s.toNat) 1) rfl rfl (by decide) (by omega) (e83) ?_
            refine z_pushI (z := (-2)) rfl rfl ?_
            refine z_icmp_ne rfl (by omega) (by decide) (fun h6 => ?_) (fun h6 => ?_)
            · refine z_pushI (z := (-12)) rfl rfl ?_
              refine z_iret rfl rfl ?_
              show zW _ _ _ _ _ _ _ _ _ _
              refine z_if_geF rfl (by decide) (by decide) ?_
              refine z_aload rfl rfl ?_
              refine z_iload rfl rfl ?_
              refine z_callVi (As := [_]) (le := [some _, some _]) rfl rfl rfl (Nat.le_of_ble_eq_true rfl) (Nat.le_of_ble_eq_true rfl) rfl ?_
              refine z_aload rfl rfl ?_
              refine z_getR (r := 83) rfl rfl (hRr _ rm_50_58 (by decide)) ?_
              refine z_iload rfl rfl ?_
              refine z_iald (v := J (38 + 2 * s.toNat) 1) rfl rfl (by decide) (by omega) (e83) ?_
              refine z_pushI (z := (-1)) rfl rfl ?_
              refine z_icmp_ne rfl (by omega) (by decide) (fun h7 => ?_) (fun h7 => ?_)
              · refine z_aload rfl rfl ?_
                refine z_getR (r := 83) rfl rfl (hRr _ rm_50_58 (by decide)) ?_
                refine z_iload rfl rfl ?_
                refine z_iald (v := J (38 + 2 * s.toNat) 1) rfl rfl (by decide) (by omega) (e83) ?_
                refine z_pushI (z := (-2)) rfl rfl ?_
                refine z_icmp_ne rfl (by omega) (by decide) (fun h8 => ?_) (fun h8 => ?_)
                · refine z_pushI (z := (-12)) rfl rfl ?_
                  refine z_iret rfl rfl ?_
                  show zW _ _ _ _ _ _ _ _ _ _
                  refine z_iret rfl rfl ?_
                  refine ⟨?_, ?_⟩
                  · first | rfl | exact congrArg (fun v => some (zi v)) (by omega) | (exfalso; omega)
                  · exact hr
                · refine z_pushI (z := 0) rfl rfl ?_
                  refine z_goto rfl ?_
                  refine z_iret rfl rfl ?_
                  show zW _ _ _ _ _ _ _ _ _ _
                  refine z_iret rfl rfl ?_
                  refine ⟨?_, ?_⟩
                  · first | rfl | exact congrArg (fun v => some (zi v)) (by omega) | (exfalso; omega)
                  · exact hr
              · refine z_pushI (z := (-11)) rfl rfl ?_
                refine z_goto rfl ?_
                refine z_iret rfl rfl ?_
                show zW _ _ _ _ _ _ _ _ _ _
                refine z_iret rfl rfl ?_
                refine ⟨?_, ?_⟩
                · first | rfl | exact congrArg (fun v => some (zi v)) (by omega) | (exfalso; omega)
                · exact hr
            · refine z_pushI (z := 0) rfl rfl ?_
              refine z_goto rfl ?_
              refine z_iret rfl rfl ?_
              show zW _ _ _ _ _ _ _ _ _ _
              refine z_if_geT rfl (by decide) (by decide) ?_
              refine z_aload rfl rfl ?_
              refine z_iload rfl rfl ?_
              refine z_putI (y := 41) rfl rfl rfl ?_
              refine z_pushI (z := 0) rfl rfl ?_
              refine z_istore rfl rfl ?_
              refine z_pushI (z := 0) rfl rfl ?_
              refine z_istore rfl rfl ?_
              refine z_aload rfl rfl ?_
              exfalso
              omega
          · refine z_pushI (z := (-11)) rfl rfl ?_
            refine z_goto rfl ?_
            refine z_iret rfl rfl ?_
            show zW _ _ _ _ _ _ _ _ _ _
            refine z_if_geF rfl (by decide) (by decide) ?_
            refine z_aload rfl rfl ?_
            refine z_iload rfl rfl ?_
            refine z_callVi (As := [_]) (le := [some _, some _]) rfl rfl rfl (Nat.le_of_ble_eq_true rfl) (Nat.le_of_ble_eq_true rfl) rfl ?_
            refine z_aload rfl rfl ?_
            refine z_getR (r := 83) rfl rfl (hRr _ rm_50_58 (by decide)) ?_
            refine z_iload rfl rfl ?_
            refine z_iald (v := J (38 + 2 * s.toNat) 1) rfl rfl (by decide) (by omega) (e83) ?_
            refine z_pushI (z := (-1)) rfl rfl ?_
            refine z_icmp_neF rfl (by omega) (by decide) (by omega) ?_
            refine z_pushI (z := (-11)) rfl rfl ?_
            refine z_goto rfl ?_
            refine z_iret rfl rfl ?_
            show zW _ _ _ _ _ _ _ _ _ _
            refine z_iret rfl rfl ?_
            refine ⟨?_, ?_⟩
            · first | rfl | exact congrArg (fun v => some (zi v)) (by omega) | (exfalso; omega)
            · exact hr
theorem st_drawn_2 {X : Nat × (Nat → Int32)} {d : Nat} {J M : zA} {R : zR} {s sd c v : Int} (hr : Rel X J M R) (hs : -2147483648 ≤ s ∧ s < 2147483648) (hsd : -2147483648 ≤ sd ∧ sd < 2147483648) (hc : -2147483648 ≤ c ∧ c < 2147483648) (hv : -2147483648 ≤ v ∧ v < 2147483648) (hs6 : 0 ≤ s ∧ s < 6) (hh : J (38 + 2 * s.toNat) 0 = 2) (hso : ¬ J (38 + 2 * s.toNat) 2 = 0) : zW X (d + 20) 123 0 (gEn 123 [(.ref 0), (zi s), (zi sd), (zi c), (zi v)]) [] J M R (stP X (d + 20) 221 [(zi s), (zi sd), (zi c), (zi v)]) := by
  have hr0 := hr
  obtain ⟨hR, hG, hY, hD, hP, hC, hAc, hS, hTp, hX, hW⟩ := hr0
  have hRr : zRoR R := zRoR_of hR
  have hY0 := hY
  obtain ⟨y1, y2, y3⟩ := hY0
  have yn := zNn y3
  have hA0 := hAc
  obtain ⟨a1, a2, a3, a4, a5, a6⟩ := hA0
  have e83 : J 83 s = -2 - J (38 + 2 * s.toNat) 2 := (hS s hs6.1 hs6.2).1.symm.trans (cH_2 hh)
  have s3 : 0 ≤ J (38 + 2 * s.toNat) 2 ∧ J (38 + 2 * s.toNat) 2 ≤ 4 := (hS s hs6.1 hs6.2).2.2.1
  have s4 : 0 ≤ J (38 + 2 * s.toNat) 3 ∧ J (38 + 2 * s.toNat) 3 ≤ 60 := (hS s hs6.1 hs6.2).2.2.2.1
  have s6 := (hS s hs6.1 hs6.2).2.2.2.2.2 hh
  have s7 : J 84 s = J (38 + 2 * s.toNat) 3 := s6.1.symm
  have s8 : ∀ i, 0 ≤ i → i < J (38 + 2 * s.toNat) 3 → M (39 + 2 * s.toNat) i = M 85 (60 * s + i) := s6.2.1
  show zW _ _ _ _ [some (.ref 0), some (zi s), some (zi sd), some (zi c), some (zi v), none] _ _ _ _ _
  refine z_iload rfl rfl ?_
  refine z_callSi (As := [_]) (le := [some _]) rfl rfl (Nat.le_of_ble_eq_true rfl) (Nat.le_of_ble_eq_true rfl) rfl ?_
  refine z_iload rfl rfl ?_
  refine z_if_ltF rfl (by omega) (by omega) ?_
  refine z_iload rfl rfl ?_
  refine z_pushI (z := 6) rfl rfl ?_
  refine z_icmp_geF rfl (by omega) (by decide) (by omega) ?_
  refine z_pushI (z := 1) rfl rfl ?_
  refine z_goto rfl ?_
  refine z_bret rfl rfl (by decide) ?_
  show zW _ _ _ _ _ _ _ _ _ _
  refine z_if_eqF rfl (by decide) (by decide) ?_
  refine z_iload rfl rfl ?_
  refine z_pushI (z := 1) rfl rfl ?_
  refine z_icmp_lt rfl (by omega) (by decide) (fun h1 => ?_) (fun h1 => ?_)
  · refine z_pushI (z := (-1)) rfl rfl ?_
    refine z_iret rfl rfl ?_
    refine ⟨_, rfl, ?_⟩
    show zW _ _ _ _ [some (.ref 50), some (zi s), some (zi sd), some (zi c), some (zi v), none, none, none, none, none, none] _ _ _ _ _
    refine z_iload rfl rfl ?_
    refine z_callSi (As := [_]) (le := [some _]) rfl rfl (Nat.le_of_ble_eq_true rfl) (Nat.le_of_ble_eq_true rfl) rfl ?_
    refine z_iload rfl rfl ?_
    refine z_pushI (z := 0) rfl rfl ?_
    refine z_pushI (z := 5) rfl rfl ?_
    refine z_callSi (As := [_, _, _]) (le := [some _, some _, some _]) rfl rfl (Nat.le_of_ble_eq_true rfl) (Nat.le_of_ble_eq_true rfl) rfl ?_
    refine z_iload rfl rfl ?_
    refine z_iload rfl rfl ?_
    refine z_icmp_ltF rfl (by omega) (by decide) (by omega) ?_
    refine z_iload rfl rfl ?_
    refine z_iload rfl rfl ?_
    refine z_icmp_gtF rfl (by omega) (by decide) (by omega) ?_
    refine z_pushI (z := 1) rfl rfl ?_
    refine z_goto rfl ?_
    refine z_bret rfl rfl (by decide) ?_
    show zW _ _ _ _ _ _ _ _ _ _
    refine z_bret rfl rfl (by decide) ?_
    show zW _ _ _ _ _ _ _ _ _ _
    refine z_if_eqF rfl (by decide) (by decide) ?_
    refine z_iload rfl rfl ?_
    refine z_pushI (z := 1) rfl rfl ?_
    refine z_pushI (z := 30) rfl rfl ?_
    refine z_callSi (As := [_, _, _]) (le := [some _, some _, some _]) rfl rfl (Nat.le_of_ble_eq_true rfl) (Nat.le_of_ble_eq_true rfl) rfl ?_
    refine z_iload rfl rfl ?_
    refine z_iload rfl rfl ?_
    refine z_icmp_ltT rfl (by omega) (by decide) (by omega) ?_
    refine z_pushI (z := 0) rfl rfl ?_
    refine z_bret rfl rfl (by decide) ?_
    show zW _ _ _ _ _ _ _ _ _ _
    refine z_if_eqT rfl (by decide) (by decide) ?_
    refine z_pushI (z := (-1)) rfl rfl ?_
    refine z_iret rfl rfl ?_
    refine ⟨?_, ?_⟩
    · first | rfl | exact congrArg (fun v => some (zi v)) (by omega) | (exfalso; omega)
    · exact hr
  · refine z_iload rfl rfl ?_
    refine z_pushI (z := 30) rfl rfl ?_
    refine z_icmp_gt rfl (by omega) (by decide) (fun h2 => ?_) (fun h2 => ?_)
    · refine z_pushI (z := (-1)) rfl rfl ?_
      refine z_iret rfl rfl ?_
      refine ⟨_, rfl, ?_⟩
      show zW _ _ _ _ [some (.ref 50), some (zi s), some (zi sd), some (zi c), some (zi v), none, none, none, none, none, none] _ _ _ _ _
      refine z_iload rfl rfl ?_
      refine z_callSi (As := [_]) (le := [some _]) rfl rfl (Nat.le_of_ble_eq_true rfl) (Nat.le_of_ble_eq_true rfl) rfl ?_
      refine z_iload rfl rfl ?_
      refine z_pushI (z := 0) rfl rfl ?_
      refine z_pushI (z := 5) rfl rfl ?_
      refine z_callSi (As := [_, _, _]) (le := [some _, some _, some _]) rfl rfl (Nat.le_of_ble_eq_true rfl) (Nat.le_of_ble_eq_true rfl) rfl ?_
      refine z_iload rfl rfl ?_
      refine z_iload rfl rfl ?_
      refine z_icmp_ltF rfl (by omega) (by decide) (by omega) ?_
      refine z_iload rfl rfl ?_
      refine z_iload rfl rfl ?_
      refine z_icmp_gtF rfl (by omega) (by decide) (by omega) ?_
      refine z_pushI (z := 1) rfl rfl ?_
      refine z_goto rfl ?_
      refine z_bret rfl rfl (by decide) ?_
      show zW _ _ _ _ _ _ _ _ _ _
      refine z_bret rfl rfl (by decide) ?_
      show zW _ _ _ _ _ _ _ _ _ _
      refine z_if_eqF rfl (by decide) (by decide) ?_
      refine z_iload rfl rfl ?_
      refine z_pushI (z := 1) rfl rfl ?_
      refine z_pushI (z := 30) rfl rfl ?_
      refine z_callSi (As := [_, _, _]) (le := [some _, some _, some _]) rfl rfl (Nat.le_of_ble_eq_true rfl) (Nat.le_of_ble_eq_true rfl) rfl ?_
      refine z_iload rfl rfl ?_
      refine z_iload rfl rfl ?_
      refine z_icmp_ltF rfl (by omega) (by decide) (by omega) ?_
      refine z_iload rfl rfl ?_
      refine z_iload rfl rfl ?_
      refine z_icmp_gtT rfl (by omega) (by decide) (by omega) ?_
      refine z_pushI (z := 0) rfl rfl ?_
      refine z_bret rfl rfl (by decide) ?_
      show zW _ _ _ _ _ _ _ _ _ _
      refine z_if_eqT rfl (by decide) (by decide) ?_
      refine z_pushI (z := (-1)) rfl rfl ?_
      refine z_iret rfl rfl ?_
      refine ⟨?_, ?_⟩
      · first | rfl | exact congrArg (fun v => some (zi v)) (by omega) | (exfalso; omega)
      · exact hr
    · refine z_iload rfl rfl ?_
      refine z_callSi (As := [_]) (le := [some _]) rfl rfl (Nat.le_of_ble_eq_true rfl) (Nat.le_of_ble_eq_true rfl) rfl ?_
      refine z_iload rfl rfl ?_
      refine z_if_eq rfl (by omega) (fun h3 => ?_) (fun h3 => ?_)
      · refine z_pushI (z := 1) rfl rfl ?_
        refine z_goto rfl ?_
        refine z_bret rfl rfl (by decide) ?_
        show zW _ _ _ _ _ _ _ _ _ _
        refine z_if_neT rfl (by decide) (by decide) ?_
        refine z_aload rfl rfl ?_
        refine z_getR (r := 10) rfl rfl (hR _ rm_0_2) ?_
        refine z_aload rfl rfl ?_
        refine z_getR (r := 37) rfl rfl (hR _ rm_0_11) ?_
        refine z_iload rfl rfl ?_
        refine z_aald (r := 38 + 2 * s.toNat) rfl rfl (by decide) (by omega) (rr_shelf hR (by omega)) ?_
        refine z_callVi (As := [_]) (le := [some _, some _, none, none, none]) rfl rfl rfl (Nat.le_of_ble_eq_true rfl) (Nat.le_of_ble_eq_true rfl) rfl ?_
        refine z_aload rfl rfl ?_
        refine z_callVi (As := []) (le := [some _]) rfl rfl (zk_shelf (by omega)) (Nat.le_of_ble_eq_true rfl) (Nat.le_of_ble_eq_true rfl) rfl ?_
        refine z_aload rfl rfl ?_
        refine z_getI (v := 2) rfl (zk_shelf (by omega)) (hh) ?_
        refine z_if_neT rfl (by decide) (by decide) ?_
        refine z_aload rfl rfl ?_
        refine z_callVi (As := []) (le := [some _]) rfl rfl (zk_shelf (by omega)) (Nat.le_of_ble_eq_true rfl) (Nat.le_of_ble_eq_true rfl) rfl ?_
        refine z_aload rfl rfl ?_
        refine z_getI (v := 2) rfl (zk_shelf (by omega)) (hh) ?_
        refine z_pushI (z := 2) rfl rfl ?_
        refine z_icmp_neF rfl (by decide) (by decide) (by decide) ?_
        refine z_aload rfl rfl ?_
        refine z_getI (v := J (38 + 2 * s.toNat) 2) rfl (zk_shelf (by omega)) (rfl) ?_
        refine z_if_neT rfl (by omega) (by omega) ?_
        refine z_pushI (z := 0) rfl rfl ?_
        refine z_bret rfl rfl (by decide) ?_
        show zW _ _ _ _ _ _ _ _ _ _
        refine z_if_eqT rfl (by decide) (by decide) ?_
        refine z_pushI (z := (-12)) rfl rfl ?_
        refine z_iret rfl rfl ?_
        show zW _ _ _ _ _ _ _ _ _ _
        refine z_istore rfl rfl ?_
        refine z_iload rfl rfl ?_
        refine z_if_geF rfl (by decide) (by decide) ?_
        refine z_iload rfl rfl ?_
        refine z_iret rfl rfl ?_
        show zW _ _ _ _ _ _ _ _ _ _
        refine z_istore rfl rfl ?_
        refine z_iload rfl rfl ?_
        refine z_if_geF rfl (by decide) (by decide) ?_
        refine z_iload rfl rfl ?_
        refine z_iret rfl rfl ?_
        refine ⟨_, rfl, ?_⟩
        show zW _ _ _ _ [some (.ref 50), some (zi s), some (zi sd), some (zi c), some (zi v), none, none, none, none, none, none] _ _ _ _ _
        refine z_iload rfl rfl ?_
        refine z_callSi (As := [_]) (le := [some _]) rfl rfl (Nat.le_of_ble_eq_true rfl) (Nat.le_of_ble_eq_true rfl) rfl ?_
        refine z_iload rfl rfl ?_
        refine z_pushI (z := 0) rfl rfl ?_
        refine z_pushI (z := 5) rfl rfl ?_
        refine z_callSi (As := [_, _, _]) (le := [some _, some _, some _]) rfl rfl (Nat.le_of_ble_eq_true rfl) (Nat.le_of_ble_eq_true rfl) rfl ?_
        refine z_iload rfl rfl ?_
        refine z_iload rfl rfl ?_
        refine z_icmp_ltF rfl (by omega) (by decide) (by omega) ?_
        refine z_iload rfl rfl ?_
        refine z_iload rfl rfl ?_
        refine z_icmp_gtF rfl (by omega) (by decide) (by omega) ?_
        refine z_pushI (z := 1) rfl rfl ?_
        refine z_goto rfl ?_
        refine z_bret rfl rfl (by decide) ?_
        show zW _ _ _ _ _ _ _ _ _ _
        refine z_bret rfl rfl (by decide) ?_
        show zW _ _ _ _ _ _ _ _ _ _
        refine z_if_eqF rfl (by decide) (by decide) ?_
        refine z_iload rfl rfl ?_
        refine z_pushI (z := 1) rfl rfl ?_
        refine z_pushI (z := 30) rfl rfl ?_
        refine z_callSi (As := [_, _, _]) (le := [some _, some _, some _]) rfl rfl (Nat.le_of_ble_eq_true rfl) (Nat.le_of_ble_eq_true rfl) rfl ?_
        refine z_iload rfl rfl ?_
        refine z_iload rfl rfl ?_
        refine z_icmp_ltF rfl (by omega) (by decide) (by omega) ?_
        refine z_iload rfl rfl ?_
        refine z_iload rfl rfl ?_
        refine z_icmp_gtF rfl (by omega) (by decide) (by omega) ?_
        refine z_pushI (z := 1) rfl rfl ?_
        refine z_goto rfl ?_
        refine z_bret rfl rfl (by decide) ?_
        show zW _ _ _ _ _ _ _ _ _ _
        refine z_if_eqF rfl (by decide) (by decide) ?_
        refine z_iload rfl rfl ?_
        refine z_pushI (z := 0) rfl rfl ?_
        refine z_pushI (z := 1) rfl rfl ?_
        refine z_callSi (As := [_, _, _]) (le := [some _, some _, some _]) rfl rfl (Nat.le_of_ble_eq_true rfl) (Nat.le_of_ble_eq_true rfl) rfl ?_
        refine z_iload rfl rfl ?_
        refine z_iload rfl rfl ?_
        refine z_icmp_ltF rfl (by omega) (by decide) (by omega) ?_
        refine z_iload rfl rfl ?_
        refine z_iload rfl rfl ?_
        refine z_icmp_gtF rfl (by omega) (by decide) (by omega) ?_
        refine z_pushI (z := 1) rfl rfl ?_
        refine z_goto rfl ?_
        refine z_bret rfl rfl (by decide) ?_
        show zW _ _ _ _ _ _ _ _ _ _
        refine z_if_neT rfl (by decide) (by decide) ?_
        refine z_aload rfl rfl ?_
        refine z_iload rfl rfl ?_
        refine z_callVi (As := [_]) (le := [some _, some _]) rfl rfl rfl (Nat.le_of_ble_eq_true rfl) (Nat.le_of_ble_eq_true rfl) rfl ?_
        refine z_aload rfl rfl ?_
        refine z_getR (r := 83) rfl rfl (hRr _ rm_50_58 (by decide)) ?_
        refine z_iload rfl rfl ?_
        refine z_iald (v := (-2) - (J (38 + 2 * s.toNat) 2)) rfl rfl (by decide) (by omega) (e83) ?_
        refine z_pushI (z := (-1)) rfl rfl ?_
        refine z_icmp_neT rfl (by omega) (by decide) (by omega) ?_
        refine z_aload rfl rfl ?_
        refine z_getR (r := 83) rfl rfl (hRr _ rm_50_58 (by decide)) ?_
        refine z_iload rfl rfl ?_
        refine z_iald (v := (-2) - (J (38 + 2 * s.toNat) 2)) rfl rfl (by decide) (by omega) (e83) ?_
        refine z_pushI (z := (-2)) rfl rfl ?_
        refine z_icmp_neT rfl (by omega) (by decide) (by omega) ?_
        refine z_pushI (z := (-12)) rfl rfl ?_
        refine z_iret rfl rfl ?_
        show zW _ _ _ _ _ _ _ _ _ _
        refine z_if_geF rfl (by decide) (by decide) ?_
        refine z_aload rfl rfl ?_
        refine z_iload rfl rfl ?_
        refine z_callVi (As := [_]) (le := [some _, some _]) rfl rfl rfl (Nat.le_of_ble_eq_true rfl) (Nat.le_of_ble_eq_true rfl) rfl ?_
        refine z_aload rfl rfl ?_
        refine z_getR (r := 83) rfl rfl (hRr _ rm_50_58 (by decide)) ?_
        refine z_iload rfl rfl ?_
        refine z_iald (v := (-2) - (J (38 + 2 * s.toNat) 2)) rfl rfl (by decide) (by omega) (e83) ?_
        refine z_pushI (z := (-1)) rfl rfl ?_
        refine z_icmp_neT rfl (by omega) (by decide) (by omega) ?_
        refine z_aload rfl rfl ?_
        refine z_getR (r := 83) rfl rfl (hRr _ rm_50_58 (by decide)) ?_
        refine z_iload rfl rfl ?_
        refine z_iald (v := (-2) - (J (38 + 2 * s.toNat) 2)) rfl rfl (by decide) (by omega) (e83) ?_
        refine z_pushI (z := (-2)) rfl rfl ?_
        refine z_icmp_neT rfl (by omega) (by decide) (by omega) ?_
        refine z_pushI (z := (-12)) rfl rfl ?_
        refine z_iret rfl rfl ?_
        show zW _ _ _ _ _ _ _ _ _ _
        refine z_iret rfl rfl ?_
        refine ⟨?_, ?_⟩
        · first | rfl | exact congrArg (fun v => some (zi v)) (by omega) | (exfalso; omega)
        · exact hr
      · refine z_iload rfl rfl ?_
        refine z_pushI (z := 1) rfl rfl ?_
        refine z_icmp_ne rfl (by omega) (by decide) (fun h4 => ?_) (fun h4 => ?_)
        · refine z_pushI (z := 0) rfl rfl ?_
          refine z_bret rfl rfl (by decide) ?_
          show zW _ _ _ _ _ _ _ _ _ _
          refine z_if_neF rfl (by decide) (by decide) ?_
          refine z_pushI (z := (-1)) rfl rfl ?_
          refine z_iret rfl rfl ?_
          refine ⟨_, rfl, ?_⟩
          show zW _ _ _ _ [some (.ref 50), some (zi s), some (zi sd), some (zi c), some (zi v), none, none, none, none, none, none] _ _ _ _ _
          refine z_iload rfl rfl ?_
          refine z_callSi (As := [_]) (le := [some _]) rfl rfl (Nat.le_of_ble_eq_true rfl) (Nat.le_of_ble_eq_true rfl) rfl ?_
          refine z_iload rfl rfl ?_
          refine z_pushI (z := 0) rfl rfl ?_
          refine z_pushI (z := 5) rfl rfl ?_
          refine z_callSi (As := [_, _, _]) (le := [some _, some _, some _]) rfl rfl (Nat.le_of_ble_eq_true rfl) (Nat.le_of_ble_eq_true rfl) rfl ?_
          refine z_iload rfl rfl ?_
          refine z_iload rfl rfl ?_
          refine z_icmp_ltF rfl (by omega) (by decide) (by omega) ?_
          refine z_iload rfl rfl ?_
          refine z_iload rfl rfl ?_
          refine z_icmp_gtF rfl (by omega) (by decide) (by omega) ?_
          refine z_pushI (z := 1) rfl rfl ?_
          refine z_goto rfl ?_
          refine z_bret rfl rfl (by decide) ?_
          show zW _ _ _ _ _ _ _ _ _ _
          refine z_bret rfl rfl (by decide) ?_
          show zW _ _ _ _ _ _ _ _ _ _
          refine z_if_eqF rfl (by decide) (by decide) ?_
          refine z_iload rfl rfl ?_
          refine z_pushI (z := 1) rfl rfl ?_
          refine z_pushI (z := 30) rfl rfl ?_
          refine z_callSi (As := [_, _, _]) (le := [some _, some _, some _]) rfl rfl (Nat.le_of_ble_eq_true rfl) (Nat.le_of_ble_eq_true rfl) rfl ?_
          refine z_iload rfl rfl ?_
          refine z_iload rfl rfl ?_
          refine z_icmp_ltF rfl (by omega) (by decide) (by omega) ?_
          refine z_iload rfl rfl ?_
          refine z_iload rfl rfl ?_
          refine z_icmp_gtF rfl (by omega) (by decide) (by omega) ?_
          refine z_pushI (z := 1) rfl rfl ?_
          refine z_goto rfl ?_
          refine z_bret rfl rfl (by decide) ?_
          show zW _ _ _ _ _ _ _ _ _ _
          refine z_if_eqF rfl (by decide) (by decide) ?_
          refine z_iload rfl rfl ?_
          refine z_pushI (z := 0) rfl rfl ?_
          refine z_pushI (z := 1) rfl rfl ?_
          refine z_callSi (As := [_, _, _]) (le := [some _, some _, some _]) rfl rfl (Nat.le_of_ble_eq_true rfl) (Nat.le_of_ble_eq_true rfl) rfl ?_
          refine z_iload rfl rfl ?_
          refine z_iload rfl rfl ?_
          refine z_icmp_lt rfl (by omega) (by decide) (fun h5 => ?_) (fun h5 => ?_)
          · refine z_pushI (z := 0) rfl rfl ?_
            refine z_bret rfl rfl (by decide) ?_
            show zW _ _ _ _ _ _ _ _ _ _
            refine z_if_neF rfl (by decide) (by decide) ?_
            refine z_pushI (z := (-1)) rfl rfl ?_
            refine z_iret rfl rfl ?_
            refine ⟨?_, ?_⟩
            · first | rfl | exact congrArg (fun v => some (zi v)) (by omega) | (exfalso; omega)
            · exact hr
          · refine z_iload rfl rfl ?_
            refine z_iload rfl rfl ?_
            refine z_icmp_gt rfl (by omega) (by decide) (fun h6 => ?_) (fun h6 => ?_)
            · refine z_pushI (z := 0) rfl rfl ?_
              refine z_bret rfl rfl (by decide) ?_
              show zW _ _ _ _ _ _ _ _ _ _
              refine z_if_neF rfl (by decide) (by decide) ?_
              refine z_pushI (z := (-1)) rfl rfl ?_
              refine z_iret rfl rfl ?_
              refine ⟨?_, ?_⟩
              · first | rfl | exact congrArg (fun v => some (zi v)) (by omega) | (exfalso; omega)
              · exact hr
            · refine z_pushI (z := 1) rfl rfl ?_
              refine z_goto rfl ?_
              refine z_bret rfl rfl (by decide) ?_
              show zW _ _ _ _ _ _ _ _ _ _
              refine z_if_neT rfl (by decide) (by decide) ?_
              refine z_aload rfl rfl ?_
              refine z_iload rfl rfl ?_
              refine z_callVi (As := [_]) (le := [some _, some _]) rfl rfl rfl (Nat.le_of_ble_eq_true rfl) (Nat.le_of_ble_eq_true rfl) rfl ?_
              refine z_aload rfl rfl ?_
              refine z_getR (r := 83) rfl rfl (hRr _ rm_50_58 (by decide)) ?_
              refine z_iload rfl rfl ?_
              refine z_iald (v := (-2) - (J (38 + 2 * s.toNat) 2)) rfl rfl (by decide) (by omega) (e83) ?_
              refine z_pushI (z := (-1)) rfl rfl ?_
              refine z_icmp_neT rfl (by omega) (by decide) (by omega) ?_
              refine z_aload rfl rfl ?_
              refine z_getR (r := 83) rfl rfl (hRr _ rm_50_58 (by decide)) ?_
              refine z_iload rfl rfl ?_
              refine z_iald (v := (-2) - (J (38 + 2 * s.toNat) 2)) rfl rfl (by decide) (by omega) (e83) ?_
              refine z_pushI (z := (-2)) rfl rfl ?_
              refine z_icmp_neT rfl (by omega) (by decide) (by omega) ?_
              refine z_pushI (z := (-12)) rfl rfl ?_
              refine z_iret rfl rfl ?_
              show zW _ _ _ _ _ _ _ _ _ _
              refine z_if_geF rfl (by decide) (by decide) ?_
              refine z_aload rfl rfl ?_
              refine z_iload rfl rfl ?_
              refine z_callVi (As := [_]) (le := [some _, some _]) rfl rfl rfl (Nat.le_of_ble_eq_true rfl) (Nat.le_of_ble_eq_true rfl) rfl ?_
              refine z_aload rfl rfl ?_
              refine z_getR (r := 83) rfl rfl (hRr _ rm_50_58 (by decide)) ?_
              refine z_iload rfl rfl ?_
              refine z_iald (v := (-2) - (J (38 + 2 * s.toNat) 2)) rfl rfl (by decide) (by omega) (e83) ?_
              refine z_pushI (z := (-1)) rfl rfl ?_
              refine z_icmp_neT rfl (by omega) (by decide) (by omega) ?_
              refine z_aload rfl rfl ?_
              refine z_getR (r := 83) rfl rfl (hRr _ rm_50_58 (by decide)) ?_
              refine z_iload rfl rfl ?_
              refine z_iald (v := (-2) - (J (38 + 2 * s.toNat) 2)) rfl rfl (by decide) (by omega) (e83) ?_
              refine z_pushI (z := (-2)) rfl rfl ?_
              refine z_icmp_neT rfl (by omega) (by decide) (by omega) ?_
              refine z_pushI (z := (-12)) rfl rfl ?_
              refine z_iret rfl rfl ?_
              show zW _ _ _ _ _ _ _ _ _ _
              refine z_iret rfl rfl ?_
              refine ⟨?_, ?_⟩
              · first | rfl | exact congrArg (fun v => some (zi v)) (by omega) | (exfalso; omega)
              · exact hr
        · refine z_pushI (z := 1) rfl rfl ?_
          refine z_goto rfl ?_
          refine z_bret rfl rfl (by decide) ?_
          show zW _ _ _ _ _ _ _ _ _ _
          refine z_if_neT rfl (by decide) (by decide) ?_
          refine z_aload rfl rfl ?_
          refine z_getR (r := 10) rfl rfl (hR _ rm_0_2) ?_
          refine z_aload rfl rfl ?_
          refine z_getR (r := 37) rfl rfl (hR _ rm_0_11) ?_
          refine z_iload rfl rfl ?_
          refine z_aald (r := 38 + 2 * s.toNat) rfl rfl (by decide) (by omega) (rr_shelf hR (by omega)) ?_
          refine z_callVi (As := [_]) (le := [some _, some _, none, none, none]) rfl rfl rfl (Nat.le_of_ble_eq_true rfl) (Nat.le_of_ble_eq_true rfl) rfl ?_
          refine z_aload rfl rfl ?_
          refine z_callVi (As := []) (le := [some _]) rfl rfl (zk_shelf (by omega)) (Nat.le_of_ble_eq_true rfl) (Nat.le_of_ble_eq_true rfl) rfl ?_
          refine z_aload rfl rfl ?_
          refine z_getI (v := 2) rfl (zk_shelf (by omega)) (hh) ?_
          refine z_if_neT rfl (by decide) (by decide) ?_
          refine z_aload rfl rfl ?_
          refine z_callVi (As := []) (le := [some _]) rfl rfl (zk_shelf (by omega)) (Nat.le_of_ble_eq_true rfl) (Nat.le_of_ble_eq_true rfl) rfl ?_
          refine z_aload rfl rfl ?_
          refine z_getI (v := 2) rfl (zk_shelf (by omega)) (hh) ?_
          refine z_pushI (z := 2) rfl rfl ?_
          refine z_icmp_neF rfl (by decide) (by decide) (by decide) ?_
          refine z_aload rfl rfl ?_
          refine z_getI (v := J (38 + 2 * s.toNat) 2) rfl (zk_shelf (by omega)) (rfl) ?_
          refine z_if_neT rfl (by omega) (by omega) ?_
          refine z_pushI (z := 0) rfl rfl ?_
          refine z_bret rfl rfl (by decide) ?_
          show zW _ _ _ _ _ _ _ _ _ _
          refine z_if_eqT rfl (by decide) (by decide) ?_
          refine z_pushI (z := (-12)) rfl rfl ?_
          refine z_iret rfl rfl ?_
          show zW _ _ _ _ _ _ _ _ _ _
          refine z_istore rfl rfl ?_
          refine z_iload rfl rfl ?_
          refine z_if_geF rfl (by decide) (by decide) ?_
          refine z_iload rfl rfl ?_
          refine z_iret rfl rfl ?_
          show zW _ _ _ _ _ _ _ _ _ _
          refine z_istore rfl rfl ?_
          refine z_iload rfl rfl ?_
          refine z_if_geF rfl (by decide) (by decide) ?_
          refine z_iload rfl rfl ?_
          refine z_iret rfl rfl ?_
          refine ⟨_, rfl, ?_⟩
          show zW _ _ _ _ [some (.ref 50), some (zi s), some (zi sd), some (zi c), some (zi v), none, none, none, none, none, none] _ _ _ _ _
          refine z_iload rfl rfl ?_
          refine z_callSi (As := [_]) (le := [some _]) rfl rfl (Nat.le_of_ble_eq_true rfl) (Nat.le_of_ble_eq_true rfl) rfl ?_
          refine z_iload rfl rfl ?_
          refine z_pushI (z := 0) rfl rfl ?_
          refine z_pushI (z := 5) rfl rfl ?_
          refine z_callSi (As := [_, _, _]) (le := [some _, some _, some _]) rfl rfl (Nat.le_of_ble_eq_true rfl) (Nat.le_of_ble_eq_true rfl) rfl ?_
          refine z_iload rfl rfl ?_
          refine z_iload rfl rfl ?_
          refine z_icmp_ltF rfl (by omega) (by decide) (by omega) ?_
          refine z_iload rfl rfl ?_
          refine z_iload rfl rfl ?_
          refine z_icmp_gtF rfl (by omega) (by decide) (by omega) ?_
          refine z_pushI (z := 1) rfl rfl ?_
          refine z_goto rfl ?_
          refine z_bret rfl rfl (by decide) ?_
          show zW _ _ _ _ _ _ _ _ _ _
          refine z_bret rfl rfl (by decide) ?_
          show zW _ _ _ _ _ _ _ _ _ _
          refine z_if_eqF rfl (by decide) (by decide) ?_
          refine z_iload rfl rfl ?_
          refine z_pushI (z := 1) rfl rfl ?_
          refine z_pushI (z := 30) rfl rfl ?_
          refine z_callSi (As := [_, _, _]) (le := [some _, some _, some _]) rfl rfl (Nat.le_of_ble_eq_true rfl) (Nat.le_of_ble_eq_true rfl) rfl ?_
          refine z_iload rfl rfl ?_
          refine z_iload rfl rfl ?_
          refine z_icmp_ltF rfl (by omega) (by decide) (by omega) ?_
          refine z_iload rfl rfl ?_
          refine z_iload rfl rfl ?_
          refine z_icmp_gtF rfl (by omega) (by decide) (by omega) ?_
          refine z_pushI (z := 1) rfl rfl ?_
          refine z_goto rfl ?_
          refine z_bret rfl rfl (by decide) ?_
          show zW _ _ _ _ _ _ _ _ _ _
          refine z_if_eqF rfl (by decide) (by decide) ?_
          refine z_iload rfl rfl ?_
          refine z_pushI (z := 0) rfl rfl ?_
          refine z_pushI (z := 1) rfl rfl ?_
          refine z_callSi (As := [_, _, _]) (le := [some _, some _, some _]) rfl rfl (Nat.le_of_ble_eq_true rfl) (Nat.le_of_ble_eq_true rfl) rfl ?_
          refine z_iload rfl rfl ?_
          refine z_iload rfl rfl ?_
          refine z_icmp_ltF rfl (by omega) (by decide) (by omega) ?_
          refine z_iload rfl rfl ?_
          refine z_iload rfl rfl ?_
          refine z_icmp_gtF rfl (by omega) (by decide) (by omega) ?_
          refine z_pushI (z := 1) rfl rfl ?_
          refine z_goto rfl ?_
          refine z_bret rfl rfl (by decide) ?_
          show zW _ _ _ _ _ _ _ _ _ _
          refine z_if_neT rfl (by decide) (by decide) ?_
          refine z_aload rfl rfl ?_
          refine z_iload rfl rfl ?_
          refine z_callVi (As := [_]) (le := [some _, some _]) rfl rfl rfl (Nat.le_of_ble_eq_true rfl) (Nat.le_of_ble_eq_true rfl) rfl ?_
          refine z_aload rfl rfl ?_
          refine z_getR (r := 83) rfl rfl (hRr _ rm_50_58 (by decide)) ?_
          refine z_iload rfl rfl ?_
          refine z_iald (v := (-2) - (J (38 + 2 * s.toNat) 2)) rfl rfl (by decide) (by omega) (e83) ?_
          refine z_pushI (z := (-1)) rfl rfl ?_
          refine z_icmp_neT rfl (by omega) (by decide) (by omega) ?_
          refine z_aload rfl rfl ?_
          refine z_getR (r := 83) rfl rfl (hRr _ rm_50_58 (by decide)) ?_
          refine z_iload rfl rfl ?_
          refine z_iald (v := (-2) - (J (38 + 2 * s.toNat) 2)) rfl rfl (by decide) (by omega) (e83) ?_
          refine z_pushI (z := (-2)) rfl rfl ?_
          refine z_icmp_neT rfl (by omega) (by decide) (by omega) ?_
          refine z_pushI (z := (-12)) rfl rfl ?_
          refine z_iret rfl rfl ?_
          show zW _ _ _ _ _ _ _ _ _ _
          refine z_if_geF rfl (by decide) (by decide) ?_
          refine z_aload rfl rfl ?_
          refine z_iload rfl rfl ?_
          refine z_callVi (As := [_]) (le := [some _, some _]) rfl rfl rfl (Nat.le_of_ble_eq_true rfl) (Nat.le_of_ble_eq_true rfl) rfl ?_
          refine z_aload rfl rfl ?_
          refine z_getR (r := 83) rfl rfl (hRr _ rm_50_58 (by decide)) ?_
          refine z_iload rfl rfl ?_
          refine z_iald (v := (-2) - (J (38 + 2 * s.toNat) 2)) rfl rfl (by decide) (by omega) (e83) ?_
          refine z_pushI (z := (-1)) rfl rfl ?_
          refine z_icmp_neT rfl (by omega) (by decide) (by omega) ?_
          refine z_aload rfl rfl ?_
          refine z_getR (r := 83) rfl rfl (hRr _ rm_50_58 (by decide)) ?_
          refine z_iload rfl rfl ?_
          refine z_iald (v := (-2) - (J (38 + 2 * s.toNat) 2)) rfl rfl (by decide) (by omega) (e83) ?_
          refine z_pushI (z := (-2)) rfl rfl ?_
          refine z_icmp_neT rfl (by omega) (by decide) (by omega) ?_
          refine z_pushI (z := (-12)) rfl rfl ?_
          refine z_iret rfl rfl ?_
          show zW _ _ _ _ _ _ _ _ _ _
          refine z_iret rfl rfl ?_
          refine ⟨?_, ?_⟩
          · first | rfl | exact congrArg (fun v => some (zi v)) (by omega) | (exfalso; omega)
          · exact hr
theorem st_drawn_m {X : Nat × (Nat → Int32)} {d : Nat} {J M : zA} {R : zR} {s sd c v : Int} (hr : Rel X J M R) (hs : -2147483648 ≤ s ∧ s < 2147483648) (hsd : -2147483648 ≤ sd ∧ sd < 2147483648) (hc : -2147483648 ≤ c ∧ c < 2147483648) (hv : -2147483648 ≤ v ∧ v < 2147483648) (hs6 : 0 ≤ s ∧ s < 6) (hh : J (38 + 2 * s.toNat) 0 = 2) (hso : J (38 + 2 * s.toNat) 2 = 0) : zW X (d + 20) 123 0 (gEn 123 [(.ref 0), (zi s), (zi sd), (zi c), (zi v)]) [] J M R (stP X (d + 20) 221 [(zi s), (zi sd), (zi c), (zi v)]) := by
  have hr0 := hr
  obtain ⟨hR, hG, hY, hD, hP, hC, hAc, hS, hTp, hX, hW⟩ := hr0
  have hRr : zRoR R := zRoR_of hR
  have hY0 := hY
  obtain ⟨y1, y2, y3⟩ := hY0
  have yn := zNn y3
  have e83 : J 83 s = -2 - J (38 + 2 * s.toNat) 2 := (hS s hs6.1 hs6.2).1.symm.trans (cH_2 hh)
  have s3 : 0 ≤ J (38 + 2 * s.toNat) 2 ∧ J (38 + 2 * s.toNat) 2 ≤ 4 := (hS s hs6.1 hs6.2).2.2.1
  have s4 : 0 ≤ J (38 + 2 * s.toNat) 3 ∧ J (38 + 2 * s.toNat) 3 ≤ 60 := (hS s hs6.1 hs6.2).2.2.2.1
  have s6 := (hS s hs6.1 hs6.2).2.2.2.2.2 hh
  have s7 : J 84 s = J (38 + 2 * s.toNat) 3 := s6.1.symm
  have s8 : ∀ i, 0 ≤ i → i < J (38 + 2 * s.toNat) 3 → M (39 + 2 * s.toNat) i = M 85 (60 * s + i) := s6.2.1
  have e83n : J 83 s = -2 := e83.trans (by omega)
  have hbr := s6.2.2 hso
  have hX0 := hX
  obtain ⟨T, t1, t2, t3⟩ := hX0
  show zW _ _ _ _ [some (.ref 0), some (zi s), some (zi sd), some (zi c), some (zi v), none] _ _ _ _ _
  refine z_iload rfl rfl ?_
  refine z_callSi (As := [_]) (le := [some _]) rfl rfl (Nat.le_of_ble_eq_true rfl) (Nat.le_of_ble_eq_true rfl) rfl ?_
  refine z_iload rfl rfl ?_
  refine z_if_ltF rfl (by omega) (by omega) ?_
  refine z_iload rfl rfl ?_
  refine z_pushI (z := 6) rfl rfl ?_
  refine z_icmp_geF rfl (by omega) (by decide) (by omega) ?_
  refine z_pushI (z := 1) rfl rfl ?_
  refine z_goto rfl ?_
  refine z_bret rfl rfl (by decide) ?_
  show zW _ _ _ _ _ _ _ _ _ _
  refine z_if_eqF rfl (by decide) (by decide) ?_
  refine z_iload rfl rfl ?_
  refine z_pushI (z := 1) rfl rfl ?_
  refine z_icmp_lt rfl (by omega) (by decide) (fun h1 => ?_) (fun h1 => ?_)
  · refine z_pushI (z := (-1)) rfl rfl ?_
    refine z_iret rfl rfl ?_
    refine ⟨_, rfl, ?_⟩
    show zW _ _ _ _ [some (.ref 50), some (zi s), some (zi sd), some (zi c), some (zi v), none, none, none, none, none, none] _ _ _ _ _
    refine z_iload rfl rfl ?_
    refine z_callSi (As := [_]) (le := [some _]) rfl rfl (Nat.le_of_ble_eq_true rfl) (Nat.le_of_ble_eq_true rfl) rfl ?_
    refine z_iload rfl rfl ?_
    refine z_pushI (z := 0) rfl rfl ?_
    refine z_pushI (z := 5) rfl rfl ?_
    refine z_callSi (As := [_, _, _]) (le := [some _, some _, some _]) rfl rfl (Nat.le_of_ble_eq_true rfl) (Nat.le_of_ble_eq_true rfl) rfl ?_
    refine z_iload rfl rfl ?_
    refine z_iload rfl rfl ?_
    refine z_icmp_ltF rfl (by omega) (by decide) (by omega) ?_
    refine z_iload rfl rfl ?_
    refine z_iload rfl rfl ?_
    refine z_icmp_gtF rfl (by omega) (by decide) (by omega) ?_
    refine z_pushI (z := 1) rfl rfl ?_
    refine z_goto rfl ?_
    refine z_bret rfl rfl (by decide) ?_
    show zW _ _ _ _ _ _ _ _ _ _
    refine z_bret rfl rfl (by decide) ?_
    show zW _ _ _ _ _ _ _ _ _ _
    refine z_if_eqF rfl (by decide) (by decide) ?_
    refine z_iload rfl rfl ?_
    refine z_pushI (z := 1) rfl rfl ?_
    refine z_pushI (z := 30) rfl rfl ?_
    refine z_callSi (As := [_, _, _]) (le := [some _, some _, some _]) rfl rfl (Nat.le_of_ble_eq_true rfl) (Nat.le_of_ble_eq_true rfl) rfl ?_
    refine z_iload rfl rfl ?_
    refine z_iload rfl rfl ?_
    refine z_icmp_ltT rfl (by omega) (by decide) (by omega) ?_
    refine z_pushI (z := 0) rfl rfl ?_
    refine z_bret rfl rfl (by decide) ?_
    show zW _ _ _ _ _ _ _ _ _ _
    refine z_if_eqT rfl (by decide) (by decide) ?_
    refine z_pushI (z := (-1)) rfl rfl ?_
    refine z_iret rfl rfl ?_
    refine ⟨?_, ?_⟩
    · first | rfl | exact congrArg (fun v => some (zi v)) (by omega) | (exfalso; omega)
    · exact hr
  · refine z_iload rfl rfl ?_
    refine z_pushI (z := 30) rfl rfl ?_
    refine z_icmp_gt rfl (by omega) (by decide) (fun h2 => ?_) (fun h2 => ?_)
    · refine z_pushI (z := (-1)) rfl rfl ?_
      refine z_iret rfl rfl ?_
      refine ⟨_, rfl, ?_⟩
      show zW _ _ _ _ [some (.ref 50), some (zi s), some (zi sd), some (zi c), some (zi v), none, none, none, none, none, none] _ _ _ _ _
      refine z_iload rfl rfl ?_
      refine z_callSi (As := [_]) (le := [some _]) rfl rfl (Nat.le_of_ble_eq_true rfl) (Nat.le_of_ble_eq_true rfl) rfl ?_
      refine z_iload rfl rfl ?_
      refine z_pushI (z := 0) rfl rfl ?_
      refine z_pushI (z := 5) rfl rfl ?_
      refine z_callSi (As := [_, _, _]) (le := [some _, some _, some _]) rfl rfl (Nat.le_of_ble_eq_true rfl) (Nat.le_of_ble_eq_true rfl) rfl ?_
      refine z_iload rfl rfl ?_
      refine z_iload rfl rfl ?_
      refine z_icmp_ltF rfl (by omega) (by decide) (by omega) ?_
      refine z_iload rfl rfl ?_
      refine z_iload rfl rfl ?_
      refine z_icmp_gtF rfl (by omega) (by decide) (by omega) ?_
      refine z_pushI (z := 1) rfl rfl ?_
      refine z_goto rfl ?_
      refine z_bret rfl rfl (by decide) ?_
      show zW _ _ _ _ _ _ _ _ _ _
      refine z_bret rfl rfl (by decide) ?_
      show zW _ _ _ _ _ _ _ _ _ _
      refine z_if_eqF rfl (by decide) (by decide) ?_
      refine z_iload rfl rfl ?_
      refine z_pushI (z := 1) rfl rfl ?_
      refine z_pushI (z := 30) rfl rfl ?_
      refine z_callSi (As := [_, _, _]) (le := [some _, some _, some _]) rfl rfl (Nat.le_of_ble_eq_true rfl) (Nat.le_of_ble_eq_true rfl) rfl ?_
      refine z_iload rfl rfl ?_
      refine z_iload rfl rfl ?_
      refine z_icmp_ltF rfl (by omega) (by decide) (by omega) ?_
      refine z_iload rfl rfl ?_
      refine z_iload rfl rfl ?_
      refine z_icmp_gtT rfl (by omega) (by decide) (by omega) ?_
      refine z_pushI (z := 0) rfl rfl ?_
      refine z_bret rfl rfl (by decide) ?_
      show zW _ _ _ _ _ _ _ _ _ _
      refine z_if_eqT rfl (by decide) (by decide) ?_
      refine z_pushI (z := (-1)) rfl rfl ?_
      refine z_iret rfl rfl ?_
      refine ⟨?_, ?_⟩
      · first | rfl | exact congrArg (fun v => some (zi v)) (by omega) | (exfalso; omega)
      · exact hr
    · refine z_iload rfl rfl ?_
      refine z_callSi (As := [_]) (le := [some _]) rfl rfl (Nat.le_of_ble_eq_true rfl) (Nat.le_of_ble_eq_true rfl) rfl ?_
      refine z_iload rfl rfl ?_
      refine z_if_eq rfl (by omega) (fun h3 => ?_) (fun h3 => ?_)
      · refine z_pushI (z := 1) rfl rfl ?_
        refine z_goto rfl ?_
        refine z_bret rfl rfl (by decide) ?_
        show zW _ _ _ _ _ _ _ _ _ _
        refine z_if_neT rfl (by decide) (by decide) ?_
        refine z_aload rfl rfl ?_
        refine z_getR (r := 10) rfl rfl (hR _ rm_0_2) ?_
        refine z_aload rfl rfl ?_
        refine z_getR (r := 37) rfl rfl (hR _ rm_0_11) ?_
        refine z_iload rfl rfl ?_
        refine z_aald (r := 38 + 2 * s.toNat) rfl rfl (by decide) (by omega) (rr_shelf hR (by omega)) ?_
        have hk1 : zK kP J J := zK_r
        refine z_callV (As := [_]) _ rfl rfl rfl (Nat.le_of_ble_eq_true rfl) (Nat.le_of_ble_eq_true rfl) (follow_k (J := J) (N := (cN J)) (n := J 8 2) (T := T) (s := s) (w := J 10 12) (z := (J (38 + 2 * s.toNat) 3)) (b := (fun i => M (39 + 2 * s.toNat) i)) hR (cN_P hk1) (hk1 8 2 rfl) y3 (LawC_P t2 hk1) t1 hs6 (fun _ _ _ => rfl) hbr (hk1 _ 3 (kP_b (by omega))) s4 ((hk1 _ 0 (kP_b (by omega))).trans hh) ((hk1 _ 2 (kP_b (by omega))).trans hso) rfl hW.1) (fun r J2 M2 R2 hr2 => ?_)
        obtain ⟨rfl, K, hE, hK30, hk3, hc2, hw2, eM, eR⟩ := hr2
        obtain rfl : M = M2 := eM.symm
        obtain rfl : R = R2 := eR.symm
        show zW _ _ _ _ _ (_ :: _) _ _ _ _
        have hk2 := zK_t hk1 hk3
        have hn2 : J2 8 2 = J 8 2 := hk2 8 2 rfl
        have hks : zK kS J J2 := kS_Pw hk3 (hc2.2.2.2.2.1.trans (Eq.symm rfl))
        obtain ⟨S, eS⟩ : ∃ S, S = tS T (cN J) (J 8 2) (fun i => M (39 + 2 * s.toNat) i) (J 10 12) K := ⟨_, rfl⟩
        have hi0 := (tS_r y3 K hE.1).1
        have hz0 := tS_z K hE.1
        rw [← eS] at hc2 hi0 hz0
        have hi := tI_30 hi0 (by omega)
        have qi := hi.2.2
        have hfc : ∀ p, 0 ≤ p → p < 8 → J2 11 p = tsh S p := fun p q1 q2 => hc2.2.2.2.2.2.2.1 p q1 q2
        refine z_istore rfl rfl ?_
        refine z_iload rfl rfl ?_
        refine z_if_geT rfl (by decide) (by decide) ?_
        refine z_aload rfl rfl ?_
        refine z_getR (r := 21) rfl rfl (hR _ rm_0_4) ?_
        refine z_iload rfl rfl ?_
        refine z_iload rfl rfl ?_
        have hbn : ∀ k : Nat, k < K → 0 ≤ (fun i => M (39 + 2 * s.toNat) i) (2 * (k : Int)) := fun k hk => (hE.1 k hk).2.1.1
        refine z_callV (As := [_, _]) _ rfl rfl rfl (Nat.le_of_ble_eq_true rfl) (Nat.le_of_ble_eq_true rfl) (drawAll_k (A := J2) (w := J 10 12) (K := K) hR (cN_P hk2) hn2 y3 (LawC_P t2 hk2) t1 hw2 hK30 zK_r hc2.1 hE.1 hbn (by omega)) (fun r J3 M3 R3 h3 => ?_)
        obtain ⟨rfl, hJ3, eM3, eR3⟩ := h3
        obtain rfl : M = M3 := eM3.symm
        obtain rfl : R = R3 := eR3.symm
        show zW _ _ _ _ _ _ _ _ _ _
        have hks2 := zK_t hks (zK_t (zK_x (a := 21) (x := 4) (v := (da T (cN J) (J 8 2) (fun i => M (39 + 2 * s.toNat) i) (J 10 12) K c.toNat (sd, 0, 0)).2.2) (zK_x (a := 21) (x := 3) (v := (da T (cN J) (J 8 2) (fun i => M (39 + 2 * s.toNat) i) (J 10 12) K c.toNat (sd, 0, 0)).2.1) (zK_x (a := 21) (x := 2) (v := (da T (cN J) (J 8 2) (fun i => M (39 + 2 * s.toNat) i) (J 10 12) K c.toNat (sd, 0, 0)).1) zK_r rfl) rfl) rfl) (zK_m hJ3 kS_T))
        refine z_iload rfl rfl ?_
        refine z_if_neF rfl (by omega) (by omega) ?_
        refine z_aload rfl rfl ?_
        refine z_getR (r := 21) rfl rfl (hR _ rm_0_4) ?_
        refine z_getI (v := (da T (cN J) (J 8 2) (fun i => M (39 + 2 * s.toNat) i) (J 10 12) K c.toNat (sd, 0, 0)).2.1) rfl rfl (hJ3 21 3 rfl) ?_
        refine z_goto rfl ?_
        refine z_iret rfl rfl ?_
        refine ⟨_, rfl, ?_⟩
        show zW _ _ _ _ [some (.ref 50), some (zi s), some (zi sd), some (zi c), some (zi v), none, none, none, none, none, none] _ _ _ _ _
        refine z_iload rfl rfl ?_
        refine z_callSi (As := [_]) (le := [some _]) rfl rfl (Nat.le_of_ble_eq_true rfl) (Nat.le_of_ble_eq_true rfl) rfl ?_
        refine z_iload rfl rfl ?_
        refine z_pushI (z := 0) rfl rfl ?_
        refine z_pushI (z := 5) rfl rfl ?_
        refine z_callSi (As := [_, _, _]) (le := [some _, some _, some _]) rfl rfl (Nat.le_of_ble_eq_true rfl) (Nat.le_of_ble_eq_true rfl) rfl ?_
        refine z_iload rfl rfl ?_
        refine z_iload rfl rfl ?_
        refine z_icmp_ltF rfl (by omega) (by decide) (by omega) ?_
        refine z_iload rfl rfl ?_
        refine z_iload rfl rfl ?_
        refine z_icmp_gtF rfl (by omega) (by decide) (by omega) ?_
        refine z_pushI (z := 1) rfl rfl ?_
        refine z_goto rfl ?_
        refine z_bret rfl rfl (by decide) ?_
        show zW _ _ _ _ _ _ _ _ _ _
        refine z_bret rfl rfl (by decide) ?_
        show zW _ _ _ _ _ _ _ _ _ _
        refine z_if_eqF rfl (by decide) (by decide) ?_
        refine z_iload rfl rfl ?_
        refine z_pushI (z := 1) rfl rfl ?_
        refine z_pushI (z := 30) rfl rfl ?_
        refine z_callSi (As := [_, _, _]) (le := [some _, some _, some _]) rfl rfl (Nat.le_of_ble_eq_true rfl) (Nat.le_of_ble_eq_true rfl) rfl ?_
        refine z_iload rfl rfl ?_
        refine z_iload rfl rfl ?_
        refine z_icmp_ltF rfl (by omega) (by decide) (by omega) ?_
        refine z_iload rfl rfl ?_
        refine z_iload rfl rfl ?_
        refine z_icmp_gtF rfl (by omega) (by decide) (by omega) ?_
        refine z_pushI (z := 1) rfl rfl ?_
        refine z_goto rfl ?_
        refine z_bret rfl rfl (by decide) ?_
        show zW _ _ _ _ _ _ _ _ _ _
        refine z_if_eqF rfl (by decide) (by decide) ?_
        refine z_iload rfl rfl ?_
        refine z_pushI (z := 0) rfl rfl ?_
        refine z_pushI (z := 1) rfl rfl ?_
        refine z_callSi (As := [_, _, _]) (le := [some _, some _, some _]) rfl rfl (Nat.le_of_ble_eq_true rfl) (Nat.le_of_ble_eq_true rfl) rfl ?_
        refine z_iload rfl rfl ?_
        refine z_iload rfl rfl ?_
        refine z_icmp_ltF rfl (by omega) (by decide) (by omega) ?_
        refine z_iload rfl rfl ?_
        refine z_iload rfl rfl ?_
        refine z_icmp_gtF rfl (by omega) (by decide) (by omega) ?_
        refine z_pushI (z := 1) rfl rfl ?_
        refine z_goto rfl ?_
        refine z_bret rfl rfl (by decide) ?_
        show zW _ _ _ _ _ _ _ _ _ _
        refine z_if_neT rfl (by decide) (by decide) ?_
        refine z_aload rfl rfl ?_
        refine z_iload rfl rfl ?_
        refine z_callVi (As := [_]) (le := [some _, some _]) rfl rfl rfl (Nat.le_of_ble_eq_true rfl) (Nat.le_of_ble_eq_true rfl) rfl ?_
        refine z_aload rfl rfl ?_
        refine z_getR (r := 83) rfl rfl (hRr _ rm_50_58 (by decide)) ?_
        refine z_iload rfl rfl ?_
        refine z_iald (v := (-2)) rfl rfl (by decide) (by omega) ((hks2 83 _ rfl).trans e83n) ?_
        refine z_pushI (z := (-1)) rfl rfl ?_
        refine z_icmp_neT rfl (by decide) (by decide) (by decide) ?_
        refine z_aload rfl rfl ?_
        refine z_getR (r := 83) rfl rfl (hRr _ rm_50_58 (by decide)) ?_
        refine z_iload rfl rfl ?_
        refine z_iald (v := (-2)) rfl rfl (by decide) (by omega) ((hks2 83 _ rfl).trans e83n) ?_
        refine z_pushI (z := (-2)) rfl rfl ?_
        refine z_icmp_neF rfl (by decide) (by decide) (by decide) ?_
        refine z_pushI (z := 0) rfl rfl ?_
        refine z_goto rfl ?_
        refine z_iret rfl rfl ?_
        show zW _ _ _ _ _ _ _ _ _ _
        refine z_if_geT rfl (by decide) (by decide) ?_
        refine z_aload rfl rfl ?_
        refine z_iload rfl rfl ?_
        refine z_putI (y := 41) rfl rfl rfl ?_
        refine z_pushI (z := 0) rfl rfl ?_
        refine z_istore rfl rfl ?_
        refine z_pushI (z := 0) rfl rfl ?_
        refine z_istore rfl rfl ?_
        refine z_aload rfl rfl ?_
        have hVa := zK_x (a := 50) (x := 41) (v := sd) (zK_m hks2 kV_S) rfl
        refine z_callVP (As := []) (v := sAll (cN J) (J 8 2).toNat) rfl rfl rfl (Nat.le_of_ble_eq_true rfl) (Nat.le_of_ble_eq_true rfl) (rallOdds_k (n := J 8 2) hRr zK_r ((rN_V hVa).trans y1.symm) ((hVa 50 1 rfl).trans y2.symm) y3) ?_
        refine z_istore rfl rfl ?_
        refine z_pushI (z := 0) rfl rfl ?_
        refine z_istore rfl rfl ?_
        show zW _ _ _ _ [some (.ref 50), some (zi s), some (zi sd), some (zi c), some (zi v), some (zi 0), some (zi 0), some (zi (sAll (cN J) (J 8 2).toNat)), some (zi 0), none, none] [] _ _ _ _
        refine drawnR_z (A := zU J3 50 41 sd) (T := T) (n := J 8 2) (z0 := (J (38 + 2 * s.toNat) 3)) (b := (fun i => M (39 + 2 * s.toNat) i)) (K := K) (d := d + 11) hRr ((rN_V hVa).trans y1.symm) ((hVa 50 1 rfl).trans y2.symm) y3 (LawR_V t3 hVa) t1 hs6 (fun i i1 i2 => (s8 i i1 i2).symm) hbr ((zU_n (by decide)).trans ((hks2 84 _ rfl).trans s7)) s4 (tEnd_v 0 hE) hK30 ((zU_x (by decide)).trans ((hks2 50 35 rfl).trans hW.2)) (by omega) c.toNat 0 (sd, 0, 0) none none _ zK_r zU_e (by omega) (fun JF e9 e10 hF => ?_)
        rw [da_w (w := 0) (v := J 10 12)]
        have hsF := zK_t (zK_x (a := 50) (x := 41) (v := sd) hks2 rfl) hF
        refine z_iload rfl rfl ?_
        refine z_if_neF rfl (by omega) (by omega) ?_
        refine z_iload rfl rfl ?_
        refine z_goto rfl ?_
        refine z_iret rfl rfl ?_
        refine ⟨?_, ?_⟩
        · first | rfl | exact congrArg (fun v => some (zi v)) (by omega) | (exfalso; omega)
        · exact Rel_S hsF zK_r hr
      · refine z_iload rfl rfl ?_
        refine z_pushI (z := 1) rfl rfl ?_
        refine z_icmp_ne rfl (by omega) (by decide) (fun h4 => ?_) (fun h4 => ?_)
        · refine z_pushI (z := 0) rfl rfl ?_
          refine z_bret rfl rfl (by decide) ?_
          show zW _ _ _ _ _ _ _ _ _ _
          refine z_if_neF rfl (by decide) (by decide) ?_
          refine z_pushI (z := (-1)) rfl rfl ?_
          refine z_iret rfl rfl ?_
          refine ⟨_, rfl, ?_⟩
          show zW _ _ _ _ [some (.ref 50), some (zi s), some (zi sd), some (zi c), some (zi v), none, none, none, none, none, none] _ _ _ _ _
          refine z_iload rfl rfl ?_
          refine z_callSi (As := [_]) (le := [some _]) rfl rfl (Nat.le_of_ble_eq_true rfl) (Nat.le_of_ble_eq_true rfl) rfl ?_
          refine z_iload rfl rfl ?_
          refine z_pushI (z := 0) rfl rfl ?_
          refine z_pushI (z := 5) rfl rfl ?_
          refine z_callSi (As := [_, _, _]) (le := [some _, some _, some _]) rfl rfl (Nat.le_of_ble_eq_true rfl) (Nat.le_of_ble_eq_true rfl) rfl ?_
          refine z_iload rfl rfl ?_
          refine z_iload rfl rfl ?_
          refine z_icmp_ltF rfl (by omega) (by decide) (by omega) ?_
          refine z_iload rfl rfl ?_
          refine z_iload rfl rfl ?_
          refine z_icmp_gtF rfl (by omega) (by decide) (by omega) ?_
          refine z_pushI (z := 1) rfl rfl ?_
          refine z_goto rfl ?_
          refine z_bret rfl rfl (by decide) ?_
          show zW _ _ _ _ _ _ _ _ _ _
          refine z_bret rfl rfl (by decide) ?_
          show zW _ _ _ _ _ _ _ _ _ _
          refine z_if_eqF rfl (by decide) (by decide) ?_
          refine z_iload rfl rfl ?_
          refine z_pushI (z := 1) rfl rfl ?_
          refine z_pushI (z := 30) rfl rfl ?_
          refine z_callSi (As := [_, _, _]) (le := [some _, some _, some _]) rfl rfl (Nat.le_of_ble_eq_true rfl) (Nat.le_of_ble_eq_true rfl) rfl ?_
          refine z_iload rfl rfl ?_
          refine z_iload rfl rfl ?_
          refine z_icmp_ltF rfl (by omega) (by decide) (by omega) ?_
          refine z_iload rfl rfl ?_
          refine z_iload rfl rfl ?_
          refine z_icmp_gtF rfl (by omega) (by decide) (by omega) ?_
          refine z_pushI (z := 1) rfl rfl ?_
          refine z_goto rfl ?_
          refine z_bret rfl rfl (by decide) ?_
          show zW _ _ _ _ _ _ _ _ _ _
          refine z_if_eqF rfl (by decide) (by decide) ?_
          refine z_iload rfl rfl ?_
          refine z_pushI (z := 0) rfl rfl ?_
          refine z_pushI (z := 1) rfl rfl ?_
          refine z_callSi (As := [_, _, _]) (le := [some _, some _, some _]) rfl rfl (Nat.le_of_ble_eq_true rfl) (Nat.le_of_ble_eq_true rfl) rfl ?_
          refine z_iload rfl rfl ?_
          refine z_iload rfl rfl ?_
          refine z_icmp_lt rfl (by omega) (by decide) (fun h5 => ?_) (fun h5 => ?_)
          · refine z_pushI (z := 0) rfl rfl ?_
            refine z_bret rfl rfl (by decide) ?_
            show zW _ _ _ _ _ _ _ _ _ _
            refine z_if_neF rfl (by decide) (by decide) ?_
            refine z_pushI (z := (-1)) rfl rfl ?_
            refine z_iret rfl rfl ?_
            refine ⟨?_, ?_⟩
            · first | rfl | exact congrArg (fun v => some (zi v)) (by omega) | (exfalso; omega)
            · exact hr
          · refine z_iload rfl rfl ?_
            refine z_iload rfl rfl ?_
            refine z_icmp_gt rfl (by omega) (by decide) (fun h6 => ?_) (fun h6 => ?_)
            · refine z_pushI (z := 0) rfl rfl ?_
              refine z_bret rfl rfl (by decide) ?_
              show zW _ _ _ _ _ _ _ _ _ _
              refine z_if_neF rfl (by decide) (by decide) ?_
              refine z_pushI (z := (-1)) rfl rfl ?_
              refine z_iret rfl rfl ?_
              refine ⟨?_, ?_⟩
              · first | rfl | exact congrArg (fun v => some (zi v)) (by omega) | (exfalso; omega)
              · exact hr
            · refine z_pushI (z := 1) rfl rfl ?_
              refine z_goto rfl ?_
              refine z_bret rfl rfl (by decide) ?_
              show zW _ _ _ _ _ _ _ _ _ _
              refine z_if_neT rfl (by decide) (by decide) ?_
              refine z_aload rfl rfl ?_
              refine z_iload rfl rfl ?_
              refine z_callVi (As := [_]) (le := [some _, some _]) rfl rfl rfl (Nat.le_of_ble_eq_true rfl) (Nat.le_of_ble_eq_true rfl) rfl ?_
              refine z_aload rfl rfl ?_
              refine z_getR (r := 83) rfl rfl (hRr _ rm_50_58 (by decide)) ?_
              refine z_iload rfl rfl ?_
              refine z_iald (v := (-2)) rfl rfl (by decide) (by omega) (e83n) ?_
              refine z_pushI (z := (-1)) rfl rfl ?_
              refine z_icmp_neT rfl (by decide) (by decide) (by decide) ?_
              refine z_aload rfl rfl ?_
              refine z_getR (r := 83) rfl rfl (hRr _ rm_50_58 (by decide)) ?_
              refine z_iload rfl rfl ?_
              refine z_iald (v := (-2)) rfl rfl (by decide) (by omega) (e83n) ?_
              refine z_pushI (z := (-2)) rfl rfl ?_
              refine z_icmp_neF rfl (by decide) (by decide) (by decide) ?_
              refine z_pushI (z := 0) rfl rfl ?_
              refine z_goto rfl ?_
              refine z_iret rfl rfl ?_
              show zW _ _ _ _ _ _ _ _ _ _
              refine z_if_geT rfl (by decide) (by decide) ?_
              refine z_aload rfl rfl ?_
              refine z_iload rfl rfl ?_
              refine z_putI (y := 41) rfl rfl rfl ?_
              refine z_pushI (z := 0) rfl rfl ?_
              refine z_istore rfl rfl ?_
              refine z_pushI (z := 0) rfl rfl ?_
              refine z_istore rfl rfl ?_
              refine z_aload rfl rfl ?_
              exfalso
              omega
        · refine z_pushI (z := 1) rfl rfl ?_
          refine z_goto rfl ?_
          refine z_bret rfl rfl (by decide) ?_
          show zW _ _ _ _ _ _ _ _ _ _
          refine z_if_neT rfl (by decide) (by decide) ?_
          refine z_aload rfl rfl ?_
          refine z_getR (r := 10) rfl rfl (hR _ rm_0_2) ?_
          refine z_aload rfl rfl ?_
          refine z_getR (r := 37) rfl rfl (hR _ rm_0_11) ?_
          refine z_iload rfl rfl ?_
          refine z_aald (r := 38 + 2 * s.toNat) rfl rfl (by decide) (by omega) (rr_shelf hR (by omega)) ?_
          have hk1 : zK kP J J := zK_r
          refine z_callV (As := [_]) _ rfl rfl rfl (Nat.le_of_ble_eq_true rfl) (Nat.le_of_ble_eq_true rfl) (follow_k (J := J) (N := (cN J)) (n := J 8 2) (T := T) (s := s) (w := J 10 12) (z := (J (38 + 2 * s.toNat) 3)) (b := (fun i => M (39 + 2 * s.toNat) i)) hR (cN_P hk1) (hk1 8 2 rfl) y3 (LawC_P t2 hk1) t1 hs6 (fun _ _ _ => rfl) hbr (hk1 _ 3 (kP_b (by omega))) s4 ((hk1 _ 0 (kP_b (by omega))).trans hh) ((hk1 _ 2 (kP_b (by omega))).trans hso) rfl hW.1) (fun r J2 M2 R2 hr2 => ?_)
          obtain ⟨rfl, K, hE, hK30, hk3, hc2, hw2, eM, eR⟩ := hr2
          obtain rfl : M = M2 := eM.symm
          obtain rfl : R = R2 := eR.symm
          show zW _ _ _ _ _ (_ :: _) _ _ _ _
          have hk2 := zK_t hk1 hk3
          have hn2 : J2 8 2 = J 8 2 := hk2 8 2 rfl
          have hks : zK kS J J2 := kS_Pw hk3 (hc2.2.2.2.2.1.trans (Eq.symm rfl))
          obtain ⟨S, eS⟩ : ∃ S, S = tS T (cN J) (J 8 2) (fun i => M (39 + 2 * s.toNat) i) (J 10 12) K := ⟨_, rfl⟩
          have hi0 := (tS_r y3 K hE.1).1
          have hz0 := tS_z K hE.1
          rw [← eS] at hc2 hi0 hz0
          have hi := tI_30 hi0 (by omega)
          have qi := hi.2.2
          have hfc : ∀ p, 0 ≤ p → p < 8 → J2 11 p = tsh S p := fun p q1 q2 => hc2.2.2.2.2.2.2.1 p q1 q2
          refine z_istore rfl rfl ?_
          refine z_iload rfl rfl ?_
          refine z_if_geT rfl (by decide) (by decide) ?_
          refine z_aload rfl rfl ?_
          refine z_getR (r := 21) rfl rfl (hR _ rm_0_4) ?_
          refine z_iload rfl rfl ?_
          refine z_iload rfl rfl ?_
          have hbn : ∀ k : Nat, k < K → 0 ≤ (fun i => M (39 + 2 * s.toNat) i) (2 * (k : Int)) := fun k hk => (hE.1 k hk).2.1.1
          refine z_callV (As := [_, _]) _ rfl rfl rfl (Nat.le_of_ble_eq_true rfl) (Nat.le_of_ble_eq_true rfl) (drawAll_k (A := J2) (w := J 10 12) (K := K) hR (cN_P hk2) hn2 y3 (LawC_P t2 hk2) t1 hw2 hK30 zK_r hc2.1 hE.1 hbn (by omega)) (fun r J3 M3 R3 h3 => ?_)
          obtain ⟨rfl, hJ3, eM3, eR3⟩ := h3
          obtain rfl : M = M3 := eM3.symm
          obtain rfl : R = R3 := eR3.symm
          show zW _ _ _ _ _ _ _ _ _ _
          have hks2 := zK_t hks (zK_t (zK_x (a := 21) (x := 4) (v := (da T (cN J) (J 8 2) (fun i => M (39 + 2 * s.toNat) i) (J 10 12) K c.toNat (sd, 0, 0)).2.2) (zK_x (a := 21) (x := 3) (v := (da T (cN J) (J 8 2) (fun i => M (39 + 2 * s.toNat) i) (J 10 12) K c.toNat (sd, 0, 0)).2.1) (zK_x (a := 21) (x := 2) (v := (da T (cN J) (J 8 2) (fun i => M (39 + 2 * s.toNat) i) (J 10 12) K c.toNat (sd, 0, 0)).1) zK_r rfl) rfl) rfl) (zK_m hJ3 kS_T))
          refine z_iload rfl rfl ?_
          refine z_if_neT rfl (by omega) (by omega) ?_
          refine z_aload rfl rfl ?_
          refine z_getR (r := 21) rfl rfl (hR _ rm_0_4) ?_
          refine z_getI (v := (da T (cN J) (J 8 2) (fun i => M (39 + 2 * s.toNat) i) (J 10 12) K c.toNat (sd, 0, 0)).2.2) rfl rfl (hJ3 21 4 rfl) ?_
          refine z_iret rfl rfl ?_
          refine ⟨_, rfl, ?_⟩
          show zW _ _ _ _ [some (.ref 50), some (zi s), some (zi sd), some (zi c), some (zi v), none, none, none, none, none, none] _ _ _ _ _
          refine z_iload rfl rfl ?_
          refine z_callSi (As := [_]) (le := [some _]) rfl rfl (Nat.le_of_ble_eq_true rfl) (Nat.le_of_ble_eq_true rfl) rfl ?_
          refine z_iload rfl rfl ?_
          refine z_pushI (z := 0) rfl rfl ?_
          refine z_pushI (z := 5) rfl rfl ?_
          refine z_callSi (As := [_, _, _]) (le := [some _, some _, some _]) rfl rfl (Nat.le_of_ble_eq_true rfl) (Nat.le_of_ble_eq_true rfl) rfl ?_
          refine z_iload rfl rfl ?_
          refine z_iload rfl rfl ?_
          refine z_icmp_ltF rfl (by omega) (by decide) (by omega) ?_
          refine z_iload rfl rfl ?_
          refine z_iload rfl rfl ?_
          refine z_icmp_gtF rfl (by omega) (by decide) (by omega) ?_
          refine z_pushI (z := 1) rfl rfl ?_
          refine z_goto rfl ?_
          refine z_bret rfl rfl (by decide) ?_
          show zW _ _ _ _ _ _ _ _ _ _
          refine z_bret rfl rfl (by decide) ?_
          show zW _ _ _ _ _ _ _ _ _ _
          refine z_if_eqF rfl (by decide) (by decide) ?_
          refine z_iload rfl rfl ?_
          refine z_pushI (z := 1) rfl rfl ?_
          refine z_pushI (z := 30) rfl rfl ?_
          refine z_callSi (As := [_, _, _]) (le := [some _, some _, some _]) rfl rfl (Nat.le_of_ble_eq_true rfl) (Nat.le_of_ble_eq_true rfl) rfl ?_
          refine z_iload rfl rfl ?_
          refine z_iload rfl rfl ?_
          refine z_icmp_ltF rfl (by omega) (by decide) (by omega) ?_
          refine z_iload rfl rfl ?_
          refine z_iload rfl rfl ?_
          refine z_icmp_gtF rfl (by omega) (by decide) (by omega) ?_
          refine z_pushI (z := 1) rfl rfl ?_
          refine z_goto rfl ?_
          refine z_bret rfl rfl (by decide) ?_
          show zW _ _ _ _ _ _ _ _ _ _
          refine z_if_eqF rfl (by decide) (by decide) ?_
          refine z_iload rfl rfl ?_
          refine z_pushI (z := 0) rfl rfl ?_
          refine z_pushI (z := 1) rfl rfl ?_
          refine z_callSi (As := [_, _, _]) (le := [some _, some _, some _]) rfl rfl (Nat.le_of_ble_eq_true rfl) (Nat.le_of_ble_eq_true rfl) rfl ?_
          refine z_iload rfl rfl ?_
          refine z_iload rfl rfl ?_
          refine z_icmp_ltF rfl (by omega) (by decide) (by omega) ?_
          refine z_iload rfl rfl ?_
          refine z_iload rfl rfl ?_
          refine z_icmp_gtF rfl (by omega) (by decide) (by omega) ?_
          refine z_pushI (z := 1) rfl rfl ?_
          refine z_goto rfl ?_
          refine z_bret rfl rfl (by decide) ?_
          show zW _ _ _ _ _ _ _ _ _ _
          refine z_if_neT rfl (by decide) (by decide) ?_
          refine z_aload rfl rfl ?_
          refine z_iload rfl rfl ?_
          refine z_callVi (As := [_]) (le := [some _, some _]) rfl rfl rfl (Nat.le_of_ble_eq_true rfl) (Nat.le_of_ble_eq_true rfl) rfl ?_
          refine z_aload rfl rfl ?_
          refine z_getR (r := 83) rfl rfl (hRr _ rm_50_58 (by decide)) ?_
          refine z_iload rfl rfl ?_
          refine z_iald (v := (-2)) rfl rfl (by decide) (by omega) ((hks2 83 _ rfl).trans e83n) ?_
          refine z_pushI (z := (-1)) rfl rfl ?_
          refine z_icmp_neT rfl (by decide) (by decide) (by decide) ?_
          refine z_aload rfl rfl ?_
          refine z_getR (r := 83) rfl rfl (hRr _ rm_50_58 (by decide)) ?_
          refine z_iload rfl rfl ?_
          refine z_iald (v := (-2)) rfl rfl (by decide) (by omega) ((hks2 83 _ rfl).trans e83n) ?_
          refine z_pushI (z := (-2)) rfl rfl ?_
          refine z_icmp_neF rfl (by decide) (by decide) (by decide) ?_
          refine z_pushI (z := 0) rfl rfl ?_
          refine z_goto rfl ?_
          refine z_iret rfl rfl ?_
          show zW _ _ _ _ _ _ _ _ _ _
          refine z_if_geT rfl (by decide) (by decide) ?_
          refine z_aload rfl rfl ?_
          refine z_iload rfl rfl ?_
          refine z_putI (y := 41) rfl rfl rfl ?_
          refine z_pushI (z := 0) rfl rfl ?_
          refine z_istore rfl rfl ?_
          refine z_pushI (z := 0) rfl rfl ?_
          refine z_istore rfl rfl ?_
          refine z_aload rfl rfl ?_
          have hVa := zK_x (a := 50) (x := 41) (v := sd) (zK_m hks2 kV_S) rfl
          refine z_callVP (As := []) (v := sAll (cN J) (J 8 2).toNat) rfl rfl rfl (Nat.le_of_ble_eq_true rfl) (Nat.le_of_ble_eq_true rfl) (rallOdds_k (n := J 8 2) hRr zK_r ((rN_V hVa).trans y1.symm) ((hVa 50 1 rfl).trans y2.symm) y3) ?_
          refine z_istore rfl rfl ?_
          refine z_pushI (z := 0) rfl rfl ?_
          refine z_istore rfl rfl ?_
          show zW _ _ _ _ [some (.ref 50), some (zi s), some (zi sd), some (zi c), some (zi v), some (zi 0), some (zi 0), some (zi (sAll (cN J) (J 8 2).toNat)), some (zi 0), none, none] [] _ _ _ _
          refine drawnR_z (A := zU J3 50 41 sd) (T := T) (n := J 8 2) (z0 := (J (38 + 2 * s.toNat) 3)) (b := (fun i => M (39 + 2 * s.toNat) i)) (K := K) (d := d + 11) hRr ((rN_V hVa).trans y1.symm) ((hVa 50 1 rfl).trans y2.symm) y3 (LawR_V t3 hVa) t1 hs6 (fun i i1 i2 => (s8 i i1 i2).symm) hbr ((zU_n (by decide)).trans ((hks2 84 _ rfl).trans s7)) s4 (tEnd_v 0 hE) hK30 ((zU_x (by decide)).trans ((hks2 50 35 rfl).trans hW.2)) (by omega) c.toNat 0 (sd, 0, 0) none none _ zK_r zU_e (by omega) (fun JF e9 e10 hF => ?_)
          rw [da_w (w := 0) (v := J 10 12)]
          have hsF := zK_t (zK_x (a := 50) (x := 41) (v := sd) hks2 rfl) hF
          refine z_iload rfl rfl ?_
          refine z_if_neT rfl (by omega) (by omega) ?_
          refine z_iload rfl rfl ?_
          refine z_iret rfl rfl ?_
          refine ⟨?_, ?_⟩
          · first | rfl | exact congrArg (fun v => some (zi v)) (by omega) | (exfalso; omega)
          · exact Rel_S hsF zK_r hr
theorem st_drawn {X : Nat × (Nat → Int32)} {d : Nat} {J M : zA} {R : zR} {s sd c v : Int} (hr : Rel X J M R) (hs : -2147483648 ≤ s ∧ s < 2147483648) (hsd : -2147483648 ≤ sd ∧ sd < 2147483648) (hc : -2147483648 ≤ c ∧ c < 2147483648) (hv : -2147483648 ≤ v ∧ v < 2147483648) : zW X (d + 20) 123 0 (gEn 123 [(.ref 0), (zi s), (zi sd), (zi c), (zi v)]) [] J M R (stP X (d + 20) 221 [(zi s), (zi sd), (zi c), (zi v)]) := by
  by_cases hs6 : 0 ≤ s ∧ s < 6
  · have hS : RelS J M := hr.2.2.2.2.2.2.2.1
    have h2 := (hS s hs6.1 hs6.2).2.1
    have h4 : J (38 + 2 * s.toNat) 0 = 0 ∨ J (38 + 2 * s.toNat) 0 = 1 ∨ J (38 + 2 * s.toNat) 0 = 2 := by omega
    rcases h4 with hh | hh | hh
    · exact st_drawn_0 hr hs hsd hc hv hs6 hh
    · exact st_drawn_1 hr hs hsd hc hv hs6 hh
    · by_cases hso : J (38 + 2 * s.toNat) 2 = 0
      · exact st_drawn_m hr hs hsd hc hv hs6 hh hso
      · exact st_drawn_2 hr hs hsd hc hv hs6 hh hso
  · exact st_drawn_n hr hs hsd hc hv hs6
