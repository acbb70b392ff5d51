theorem st_of_s {X : Nat × (Nat → Int32)} {d : Nat} {J M : zA} {R : zR} {p w : Int} (hr : Rel X J M R) (hp : -2147483648 ≤ p ∧ p < 2147483648) (hw : -2147483648 ≤ w ∧ w < 2147483648) (hs : w = 14 ∨ w = 15) : zW X (d + 20) 105 0 (gEn 105 [(.ref 0), (zi p), (zi w)]) [] J M R (stP X (d + 20) 163 [(zi p), (zi w)]) := by
  have hr0 := hr
  obtain ⟨hR, hG, hY, hD, hP, hC, hAc, hS, hTp, hX, hW⟩ := hr0
  have hRr : zRoR R := zRoR_of hR
  have hY0 := hY
  obtain ⟨y1, y2, y3⟩ := hY0
  have yn := zNn y3
  have hD0 := hD
  obtain ⟨⟨d1, d2, d3, d4, d5, d6⟩, d7, d8, d9, d10, d11⟩ := hD0
  show zW _ _ _ _ [some (.ref 0), some (zi p), some (zi w)] _ _ _ _ _
  refine z_iload rfl rfl ?_
  refine z_pushI (z := 14) rfl rfl ?_
  refine z_icmp_eq rfl (by omega) (by decide) (fun h1 => ?_) (fun h1 => ?_)
  · refine z_aload rfl rfl ?_
    refine z_getR (r := 8) rfl rfl (hR _ rm_0_1) ?_
    refine z_iload rfl rfl ?_
    refine z_callVi (As := [_]) (le := [some _, some _]) rfl rfl rfl (Nat.le_of_ble_eq_true rfl) (Nat.le_of_ble_eq_true rfl) rfl ?_
    refine z_iload rfl rfl ?_
    refine z_if_lt rfl (by omega) (fun h2 => ?_) (fun h2 => ?_)
    · refine z_pushI (z := 0) rfl rfl ?_
      refine z_bret rfl rfl (by decide) ?_
      show zW _ _ _ _ _ _ _ _ _ _
      refine z_if_neF rfl (by decide) (by decide) ?_
      refine z_pushI (z := (-1)) rfl rfl ?_
      refine z_iret rfl rfl ?_
      refine ⟨_, rfl, ?_⟩
      show zW _ _ _ _ [some (.ref 50), some (zi p), some (zi w)] _ _ _ _ _
      refine z_iload rfl rfl ?_
      refine z_pushI (z := 14) rfl rfl ?_
      refine z_pushI (z := 15) rfl rfl ?_
      refine z_callSi (As := [_, _, _]) (le := [some _, some _, some _]) rfl rfl (Nat.le_of_ble_eq_true rfl) (Nat.le_of_ble_eq_true rfl) rfl ?_
      refine z_iload rfl rfl ?_
      refine z_iload rfl rfl ?_
      refine z_icmp_lt rfl (by omega) (by decide) (fun h3 => ?_) (fun h3 => ?_)
      · refine z_pushI (z := 0) rfl rfl ?_
        refine z_bret rfl rfl (by decide) ?_
        show zW _ _ _ _ _ _ _ _ _ _
        refine z_if_eqT rfl (by decide) (by decide) ?_
        refine z_aload rfl rfl ?_
        refine z_iload rfl rfl ?_
        refine z_iload rfl rfl ?_
        refine z_callVP (As := [_, _]) (v := 0) rfl rfl rfl (Nat.le_of_ble_eq_true rfl) (Nat.le_of_ble_eq_true rfl) (isOne_0 hRr y2.symm yn hp hw (by unfold zV; omega)) ?_
        refine z_if_eqT rfl (by decide) (by decide) ?_
        refine z_pushI (z := (-1)) rfl rfl ?_
        refine z_iret rfl rfl ?_
        refine ⟨?_, ?_⟩
        · first | rfl | exact congrArg (fun v => some (zi v)) (by omega) | (exfalso; omega)
        · exact hr
      · refine z_iload rfl rfl ?_
        refine z_iload rfl rfl ?_
        refine z_icmp_gt rfl (by omega) (by decide) (fun h4 => ?_) (fun h4 => ?_)
        · refine z_pushI (z := 0) rfl rfl ?_
          refine z_bret rfl rfl (by decide) ?_
          show zW _ _ _ _ _ _ _ _ _ _
          refine z_if_eqT rfl (by decide) (by decide) ?_
          refine z_aload rfl rfl ?_
          refine z_iload rfl rfl ?_
          refine z_iload rfl rfl ?_
          refine z_callVP (As := [_, _]) (v := 0) rfl rfl rfl (Nat.le_of_ble_eq_true rfl) (Nat.le_of_ble_eq_true rfl) (isOne_0 hRr y2.symm yn hp hw (by unfold zV; omega)) ?_
          refine z_if_eqT rfl (by decide) (by decide) ?_
          refine z_pushI (z := (-1)) rfl rfl ?_
          refine z_iret rfl rfl ?_
          refine ⟨?_, ?_⟩
          · first | rfl | exact congrArg (fun v => some (zi v)) (by omega) | (exfalso; omega)
          · exact hr
        · refine z_pushI (z := 1) rfl rfl ?_
          refine z_goto rfl ?_
          refine z_bret rfl rfl (by decide) ?_
          show zW _ _ _ _ _ _ _ _ _ _
          refine z_if_eqF rfl (by decide) (by decide) ?_
          refine z_aload rfl rfl ?_
          refine z_iload rfl rfl ?_
          refine z_callVi (As := [_]) (le := [some _, some _]) rfl rfl rfl (Nat.le_of_ble_eq_true rfl) (Nat.le_of_ble_eq_true rfl) rfl ?_
          refine z_iload rfl rfl ?_
          refine z_pushI (z := 0) rfl rfl ?_
          refine z_aload rfl rfl ?_
          refine z_getI (v := J 50 1) rfl rfl (rfl) ?_
          refine z_pushI (z := 1) rfl rfl ?_
          refine z_isub (e := (J 50 1) - 1) rfl rfl ?_
          refine z_callSi (As := [_, _, _]) (le := [some _, some _, some _]) rfl rfl (Nat.le_of_ble_eq_true rfl) (Nat.le_of_ble_eq_true rfl) rfl ?_
          refine z_iload rfl rfl ?_
          refine z_iload rfl rfl ?_
          refine z_icmp_lt rfl (by omega) (by decide) (fun h5 => ?_) (fun h5 => ?_)
          · refine z_pushI (z := 0) rfl rfl ?_
            refine z_bret rfl rfl (by decide) ?_
            show zW _ _ _ _ _ _ _ _ _ _
            refine z_bret rfl rfl (by decide) ?_
            show zW _ _ _ _ _ _ _ _ _ _
            refine z_if_neF rfl (by decide) (by decide) ?_
            refine z_pushI (z := (-1)) rfl rfl ?_
            refine z_goto rfl ?_
            refine z_iret rfl rfl ?_
            refine ⟨?_, ?_⟩
            · first | rfl | exact congrArg (fun v => some (zi v)) (by omega) | (exfalso; omega)
            · exact hr
          · refine z_iload rfl rfl ?_
            refine z_iload rfl rfl ?_
            refine z_icmp_gt rfl (by omega) (by omega) (fun h6 => ?_) (fun h6 => ?_)
            · refine z_pushI (z := 0) rfl rfl ?_
              refine z_bret rfl rfl (by decide) ?_
              show zW _ _ _ _ _ _ _ _ _ _
              refine z_bret rfl rfl (by decide) ?_
              show zW _ _ _ _ _ _ _ _ _ _
              refine z_if_neF rfl (by decide) (by decide) ?_
              refine z_pushI (z := (-1)) rfl rfl ?_
              refine z_goto rfl ?_
              refine z_iret rfl rfl ?_
              refine ⟨?_, ?_⟩
              · first | rfl | exact congrArg (fun v => some (zi v)) (by omega) | (exfalso; omega)
              · exact hr
            · refine z_pushI (z := 1) rfl rfl ?_
              refine z_goto rfl ?_
              refine z_bret rfl rfl (by decide) ?_
              show zW _ _ _ _ _ _ _ _ _ _
              refine z_bret rfl rfl (by decide) ?_
              show zW _ _ _ _ _ _ _ _ _ _
              refine z_if_neT rfl (by decide) (by decide) ?_
              refine z_iload rfl rfl ?_
              refine z_pushI (z := 14) rfl rfl ?_
              refine z_icmp_ne rfl (by omega) (by decide) (fun h7 => ?_) (fun h7 => ?_)
              · refine z_aload rfl rfl ?_
                refine z_getR (r := 76) rfl rfl (hRr _ rm_50_43 (by decide)) ?_
                refine z_iload rfl rfl ?_
                refine z_iald (v := J 76 p) rfl rfl (by decide) (by omega) (rfl) ?_
                refine z_iret rfl rfl ?_
                refine ⟨?_, ?_⟩
                · first | rfl | exact congrArg (fun v => some (zi v)) (by omega) | (exfalso; omega)
                · exact hr
              · refine z_aload rfl rfl ?_
                refine z_getR (r := 75) rfl rfl (hRr _ rm_50_42 (by decide)) ?_
                refine z_iload rfl rfl ?_
                refine z_iald (v := J 75 p) rfl rfl (by decide) (by omega) (rfl) ?_
                refine z_goto rfl ?_
                refine z_iret rfl rfl ?_
                refine ⟨?_, ?_⟩
                · first | rfl | exact congrArg (fun v => some (zi v)) (by omega) | (exfalso; omega)
                · exact hr
    · refine z_iload rfl rfl ?_
      refine z_aload rfl rfl ?_
      refine z_getI (v := J 8 2) rfl rfl (rfl) ?_
      refine z_icmp_ge rfl (by omega) (by omega) (fun h3 => ?_) (fun h3 => ?_)
      · refine z_pushI (z := 0) rfl rfl ?_
        refine z_bret rfl rfl (by decide) ?_
        show zW _ _ _ _ _ _ _ _ _ _
        refine z_if_neF rfl (by decide) (by decide) ?_
        refine z_pushI (z := (-1)) rfl rfl ?_
        refine z_iret rfl rfl ?_
        refine ⟨_, rfl, ?_⟩
        show zW _ _ _ _ [some (.ref 50), some (zi p), some (zi w)] _ _ _ _ _
        refine z_iload rfl rfl ?_
        refine z_pushI (z := 14) rfl rfl ?_
        refine z_pushI (z := 15) rfl rfl ?_
        refine z_callSi (As := [_, _, _]) (le := [some _, some _, some _]) rfl rfl (Nat.le_of_ble_eq_true rfl) (Nat.le_of_ble_eq_true rfl) rfl ?_
        refine z_iload rfl rfl ?_
        refine z_iload rfl rfl ?_
        refine z_icmp_lt rfl (by omega) (by decide) (fun h4 => ?_) (fun h4 => ?_)
        · refine z_pushI (z := 0) rfl rfl ?_
          refine z_bret rfl rfl (by decide) ?_
          show zW _ _ _ _ _ _ _ _ _ _
          refine z_if_eqT rfl (by decide) (by decide) ?_
          refine z_aload rfl rfl ?_
          refine z_iload rfl rfl ?_
          refine z_iload rfl rfl ?_
          refine z_callVP (As := [_, _]) (v := 0) rfl rfl rfl (Nat.le_of_ble_eq_true rfl) (Nat.le_of_ble_eq_true rfl) (isOne_0 hRr y2.symm yn hp hw (by unfold zV; omega)) ?_
          refine z_if_eqT rfl (by decide) (by decide) ?_
          refine z_pushI (z := (-1)) rfl rfl ?_
          refine z_iret rfl rfl ?_
          refine ⟨?_, ?_⟩
          · first | rfl | exact congrArg (fun v => some (zi v)) (by omega) | (exfalso; omega)
          · exact hr
        · refine z_iload rfl rfl ?_
          refine z_iload rfl rfl ?_
          refine z_icmp_gt rfl (by omega) (by decide) (fun h5 => ?_) (fun h5 => ?_)
          · refine z_pushI (z := 0) rfl rfl ?_
            refine z_bret rfl rfl (by decide) ?_
            show zW _ _ _ _ _ _ _ _ _ _
            refine z_if_eqT rfl (by decide) (by decide) ?_
            refine z_aload rfl rfl ?_
            refine z_iload rfl rfl ?_
            refine z_iload rfl rfl ?_
            refine z_callVP (As := [_, _]) (v := 0) rfl rfl rfl (Nat.le_of_ble_eq_true rfl) (Nat.le_of_ble_eq_true rfl) (isOne_0 hRr y2.symm yn hp hw (by unfold zV; omega)) ?_
            refine z_if_eqT rfl (by decide) (by decide) ?_
            refine z_pushI (z := (-1)) rfl rfl ?_
            refine z_iret rfl rfl ?_
            refine ⟨?_, ?_⟩
            · first | rfl | exact congrArg (fun v => some (zi v)) (by omega) | (exfalso; omega)
            · exact hr
          · refine z_pushI (z := 1) rfl rfl ?_
            refine z_goto rfl ?_
            refine z_bret rfl rfl (by decide) ?_
            show zW _ _ _ _ _ _ _ _ _ _
            refine z_if_eqF rfl (by decide) (by decide) ?_
            refine z_aload rfl rfl ?_
            refine z_iload rfl rfl ?_
            refine z_callVi (As := [_]) (le := [some _, some _]) rfl rfl rfl (Nat.le_of_ble_eq_true rfl) (Nat.le_of_ble_eq_true rfl) rfl ?_
            refine z_iload rfl rfl ?_
            refine z_pushI (z := 0) rfl rfl ?_
            refine z_aload rfl rfl ?_
            refine z_getI (v := J 50 1) rfl rfl (rfl) ?_
            refine z_pushI (z := 1) rfl rfl ?_
            refine z_isub (e := (J 50 1) - 1) rfl rfl ?_
            refine z_callSi (As := [_, _, _]) (le := [some _, some _, some _]) rfl rfl (Nat.le_of_ble_eq_true rfl) (Nat.le_of_ble_eq_true rfl) rfl ?_
            refine z_iload rfl rfl ?_
            refine z_iload rfl rfl ?_
            refine z_icmp_lt rfl (by omega) (by decide) (fun h6 => ?_) (fun h6 => ?_)
            · refine z_pushI (z := 0) rfl rfl ?_
              refine z_bret rfl rfl (by decide) ?_
              show zW _ _ _ _ _ _ _ _ _ _
              refine z_bret rfl rfl (by decide) ?_
              show zW _ _ _ _ _ _ _ _ _ _
              refine z_if_neF rfl (by decide) (by decide) ?_
              refine z_pushI (z := (-1)) rfl rfl ?_
              refine z_goto rfl ?_
              refine z_iret rfl rfl ?_
              refine ⟨?_, ?_⟩
              · first | rfl | exact congrArg (fun v => some (zi v)) (by omega) | (exfalso; omega)
              · exact hr
            · refine z_iload rfl rfl ?_
              refine z_iload rfl rfl ?_
              refine z_icmp_gt rfl (by omega) (by omega) (fun h7 => ?_) (fun h7 => ?_)
              · refine z_pushI (z := 0) rfl rfl ?_
                refine z_bret rfl rfl (by decide) ?_
                show zW _ _ _ _ _ _ _ _ _ _
                refine z_bret rfl rfl (by decide) ?_
                show zW _ _ _ _ _ _ _ _ _ _
                refine z_if_neF rfl (by decide) (by decide) ?_
                refine z_pushI (z := (-1)) rfl rfl ?_
                refine z_goto rfl ?_
                refine z_iret rfl rfl ?_
                refine ⟨?_, ?_⟩
                · first | rfl | exact congrArg (fun v => some (zi v)) (by omega) | (exfalso; omega)
                · exact hr
              · refine z_pushI (z := 1) rfl rfl ?_
                refine z_goto rfl ?_
                refine z_bret rfl rfl (by decide) ?_
                show zW _ _ _ _ _ _ _ _ _ _
                refine z_bret rfl rfl (by decide) ?_
                show zW _ _ _ _ _ _ _ _ _ _
                refine z_if_neT rfl (by decide) (by decide) ?_
                refine z_iload rfl rfl ?_
                refine z_pushI (z := 14) rfl rfl ?_
                refine z_icmp_ne rfl (by omega) (by decide) (fun h8 => ?_) (fun h8 => ?_)
                · refine z_aload rfl rfl ?_
                  refine z_getR (r := 76) rfl rfl (hRr _ rm_50_43 (by decide)) ?_
                  refine z_iload rfl rfl ?_
                  refine z_iald (v := J 76 p) rfl rfl (by decide) (by omega) (rfl) ?_
                  refine z_iret rfl rfl ?_
                  refine ⟨?_, ?_⟩
                  · first | rfl | exact congrArg (fun v => some (zi v)) (by omega) | (exfalso; omega)
                  · exact hr
                · refine z_aload rfl rfl ?_
                  refine z_getR (r := 75) rfl rfl (hRr _ rm_50_42 (by decide)) ?_
                  refine z_iload rfl rfl ?_
                  refine z_iald (v := J 75 p) rfl rfl (by decide) (by omega) (rfl) ?_
                  refine z_goto rfl ?_
                  refine z_iret rfl rfl ?_
                  refine ⟨?_, ?_⟩
                  · first | rfl | exact congrArg (fun v => some (zi v)) (by omega) | (exfalso; omega)
                  · exact hr
      · refine z_pushI (z := 1) rfl rfl ?_
        refine z_goto rfl ?_
        refine z_bret rfl rfl (by decide) ?_
        show zW _ _ _ _ _ _ _ _ _ _
        refine z_if_neT rfl (by decide) (by decide) ?_
        refine z_iload rfl rfl ?_
        refine z_pushI (z := 14) rfl rfl ?_
        refine z_icmp_ne rfl (by omega) (by decide) (fun h4 => ?_) (fun h4 => ?_)
        · refine z_aload rfl rfl ?_
          refine z_getR (r := 23) rfl rfl (hR _ rm_0_6) ?_
          refine z_getR (r := 25) rfl rfl (hR _ rm_23_2) ?_
          refine z_iload rfl rfl ?_
          refine z_iald (v := J 25 p) rfl rfl (by decide) (by omega) (rfl) ?_
          refine z_iret rfl rfl ?_
          refine ⟨_, rfl, ?_⟩
          show zW _ _ _ _ [some (.ref 50), some (zi p), some (zi w)] _ _ _ _ _
          refine z_iload rfl rfl ?_
          refine z_pushI (z := 14) rfl rfl ?_
          refine z_pushI (z := 15) rfl rfl ?_
          refine z_callSi (As := [_, _, _]) (le := [some _, some _, some _]) rfl rfl (Nat.le_of_ble_eq_true rfl) (Nat.le_of_ble_eq_true rfl) rfl ?_
          refine z_iload rfl rfl ?_
          refine z_iload rfl rfl ?_
          refine z_icmp_lt rfl (by omega) (by decide) (fun h5 => ?_) (fun h5 => ?_)
          · refine z_pushI (z := 0) rfl rfl ?_
            refine z_bret rfl rfl (by decide) ?_
            show zW _ _ _ _ _ _ _ _ _ _
            refine z_if_eqT rfl (by decide) (by decide) ?_
            refine z_aload rfl rfl ?_
            refine z_iload rfl rfl ?_
            refine z_iload rfl rfl ?_
            refine z_callVP (As := [_, _]) (v := 0) rfl rfl rfl (Nat.le_of_ble_eq_true rfl) (Nat.le_of_ble_eq_true rfl) (isOne_0 hRr y2.symm yn hp hw (by unfold zV; omega)) ?_
            refine z_if_eqT rfl (by decide) (by decide) ?_
            refine z_pushI (z := (-1)) rfl rfl ?_
            refine z_iret rfl rfl ?_
            refine ⟨?_, ?_⟩
            · first | exact congrArg (fun v => some (zi v)) (d9 p (by omega) (by omega)).2.symm | (exfalso; omega)
            · exact hr
          · refine z_iload rfl rfl ?_
            refine z_iload rfl rfl ?_
            refine z_icmp_gt rfl (by omega) (by decide) (fun h6 => ?_) (fun h6 => ?_)
            · refine z_pushI (z := 0) rfl rfl ?_
              refine z_bret rfl rfl (by decide) ?_
              show zW _ _ _ _ _ _ _ _ _ _
              refine z_if_eqT rfl (by decide) (by decide) ?_
              refine z_aload rfl rfl ?_
              refine z_iload rfl rfl ?_
              refine z_iload rfl rfl ?_
              refine z_callVP (As := [_, _]) (v := 0) rfl rfl rfl (Nat.le_of_ble_eq_true rfl) (Nat.le_of_ble_eq_true rfl) (isOne_0 hRr y2.symm yn hp hw (by unfold zV; omega)) ?_
              refine z_if_eqT rfl (by decide) (by decide) ?_
              refine z_pushI (z := (-1)) rfl rfl ?_
              refine z_iret rfl rfl ?_
              refine ⟨?_, ?_⟩
              · first | exact congrArg (fun v => some (zi v)) (d9 p (by omega) (by omega)).2.symm | (exfalso; omega)
              · exact hr
            · refine z_pushI (z := 1) rfl rfl ?_
              refine z_goto rfl ?_
              refine z_bret rfl rfl (by decide) ?_
              show zW _ _ _ _ _ _ _ _ _ _
              refine z_if_eqF rfl (by decide) (by decide) ?_
              refine z_aload rfl rfl ?_
              refine z_iload rfl rfl ?_
              refine z_callVi (As := [_]) (le := [some _, some _]) rfl rfl rfl (Nat.le_of_ble_eq_true rfl) (Nat.le_of_ble_eq_true rfl) rfl ?_
              refine z_iload rfl rfl ?_
              refine z_pushI (z := 0) rfl rfl ?_
              refine z_aload rfl rfl ?_
              refine z_getI (v := J 50 1) rfl rfl (rfl) ?_
              refine z_pushI (z := 1) rfl rfl ?_
              refine z_isub (e := (J 50 1) - 1) rfl rfl ?_
              refine z_callSi (As := [_, _, _]) (le := [some _, some _, some _]) rfl rfl (Nat.le_of_ble_eq_true rfl) (Nat.le_of_ble_eq_true rfl) rfl ?_
              refine z_iload rfl rfl ?_
              refine z_iload rfl rfl ?_
              refine z_icmp_lt rfl (by omega) (by decide) (fun h7 => ?_) (fun h7 => ?_)
              · refine z_pushI (z := 0) rfl rfl ?_
                refine z_bret rfl rfl (by decide) ?_
                show zW _ _ _ _ _ _ _ _ _ _
                refine z_bret rfl rfl (by decide) ?_
                show zW _ _ _ _ _ _ _ _ _ _
                refine z_if_neF rfl (by decide) (by decide) ?_
                refine z_pushI (z := (-1)) rfl rfl ?_
                refine z_goto rfl ?_
                refine z_iret rfl rfl ?_
                refine ⟨?_, ?_⟩
                · first | exact congrArg (fun v => some (zi v)) (d9 p (by omega) (by omega)).2.symm | (exfalso; omega)
                · exact hr
              · refine z_iload rfl rfl ?_
                refine z_iload rfl rfl ?_
                refine z_icmp_gt rfl (by omega) (by omega) (fun h8 => ?_) (fun h8 => ?_)
                · refine z_pushI (z := 0) rfl rfl ?_
                  refine z_bret rfl rfl (by decide) ?_
                  show zW _ _ _ _ _ _ _ _ _ _
                  refine z_bret rfl rfl (by decide) ?_
                  show zW _ _ _ _ _ _ _ _ _ _
                  refine z_if_neF rfl (by decide) (by decide) ?_
                  refine z_pushI (z := (-1)) rfl rfl ?_
                  refine z_goto rfl ?_
                  refine z_iret rfl rfl ?_
                  refine ⟨?_, ?_⟩
                  · first | exact congrArg (fun v => some (zi v)) (d9 p (by omega) (by omega)).2.symm | (exfalso; omega)
                  · exact hr
                · refine z_pushI (z := 1) rfl rfl ?_
                  refine z_goto rfl ?_
                  refine z_bret rfl rfl (by decide) ?_
                  show zW _ _ _ _ _ _ _ _ _ _
                  refine z_bret rfl rfl (by decide) ?_
                  show zW _ _ _ _ _ _ _ _ _ _
                  refine z_if_neT rfl (by decide) (by decide) ?_
                  refine z_iload rfl rfl ?_
                  refine z_pushI (z := 14) rfl rfl ?_
                  refine z_icmp_ne rfl (by omega) (by decide) (fun h9 => ?_) (fun h9 => ?_)
                  · refine z_aload rfl rfl ?_
                    refine z_getR (r := 76) rfl rfl (hRr _ rm_50_43 (by decide)) ?_
                    refine z_iload rfl rfl ?_
                    refine z_iald (v := J 76 p) rfl rfl (by decide) (by omega) (rfl) ?_
                    refine z_iret rfl rfl ?_
                    refine ⟨?_, ?_⟩
                    · first | exact congrArg (fun v => some (zi v)) (d9 p (by omega) (by omega)).2.symm | (exfalso; omega)
                    · exact hr
                  · refine z_aload rfl rfl ?_
                    refine z_getR (r := 75) rfl rfl (hRr _ rm_50_42 (by decide)) ?_
                    refine z_iload rfl rfl ?_
                    refine z_iald (v := J 75 p) rfl rfl (by decide) (by omega) (rfl) ?_
                    refine z_goto rfl ?_
                    refine z_iret rfl rfl ?_
                    refine ⟨?_, ?_⟩
                    · first | exact congrArg (fun v => some (zi v)) (d9 p (by omega) (by omega)).2.symm | (exfalso; omega)
                    · exact hr
        · refine z_aload rfl rfl ?_
          refine z_getR (r := 23) rfl rfl (hR _ rm_0_6) ?_
          refine z_getR (r := 24) rfl rfl (hR _ rm_23_1) ?_
          refine z_iload rfl rfl ?_
          refine z_iald (v := J 24 p) rfl rfl (by decide) (by omega) (rfl) ?_
          refine z_goto rfl ?_
          refine z_iret rfl rfl ?_
          refine ⟨_, rfl, ?_⟩
          show zW _ _ _ _ [some (.ref 50), some (zi p), some (zi w)] _ _ _ _ _
          refine z_iload rfl rfl ?_
          refine z_pushI (z := 14) rfl rfl ?_
          refine z_pushI (z := 15) rfl rfl ?_
          refine z_callSi (As := [_, _, _]) (le := [some _, some _, some _]) rfl rfl (Nat.le_of_ble_eq_true rfl) (Nat.le_of_ble_eq_true rfl) rfl ?_
          refine z_iload rfl rfl ?_
          refine z_iload rfl rfl ?_
          refine z_icmp_lt rfl (by omega) (by decide) (fun h5 => ?_) (fun h5 => ?_)
          · refine z_pushI (z := 0) rfl rfl ?_
            refine z_bret rfl rfl (by decide) ?_
            show zW _ _ _ _ _ _ _ _ _ _
            refine z_if_eqT rfl (by decide) (by decide) ?_
            refine z_aload rfl rfl ?_
            refine z_iload rfl rfl ?_
            refine z_iload rfl rfl ?_
            refine z_callVP (As := [_, _]) (v := 0) rfl rfl rfl (Nat.le_of_ble_eq_true rfl) (Nat.le_of_ble_eq_true rfl) (isOne_0 hRr y2.symm yn hp hw (by unfold zV; omega)) ?_
            refine z_if_eqT rfl (by decide) (by decide) ?_
            refine z_pushI (z := (-1)) rfl rfl ?_
            refine z_iret rfl rfl ?_
            refine ⟨?_, ?_⟩
            · first | exact congrArg (fun v => some (zi v)) (d9 p (by omega) (by omega)).1.symm | (exfalso; omega)
            · exact hr
          · refine z_iload rfl rfl ?_
            refine z_iload rfl rfl ?_
            refine z_icmp_gt rfl (by omega) (by decide) (fun h6 => ?_) (fun h6 => ?_)
            · refine z_pushI (z := 0) rfl rfl ?_
              refine z_bret rfl rfl (by decide) ?_
              show zW _ _ _ _ _ _ _ _ _ _
              refine z_if_eqT rfl (by decide) (by decide) ?_
              refine z_aload rfl rfl ?_
              refine z_iload rfl rfl ?_
              refine z_iload rfl rfl ?_
              refine z_callVP (As := [_, _]) (v := 0) rfl rfl rfl (Nat.le_of_ble_eq_true rfl) (Nat.le_of_ble_eq_true rfl) (isOne_0 hRr y2.symm yn hp hw (by unfold zV; omega)) ?_
              refine z_if_eqT rfl (by decide) (by decide) ?_
              refine z_pushI (z := (-1)) rfl rfl ?_
              refine z_iret rfl rfl ?_
              refine ⟨?_, ?_⟩
              · first | exact congrArg (fun v => some (zi v)) (d9 p (by omega) (by omega)).1.symm | (exfalso; omega)
              · exact hr
            · refine z_pushI (z := 1) rfl rfl ?_
              refine z_goto rfl ?_
              refine z_bret rfl rfl (by decide) ?_
              show zW _ _ _ _ _ _ _ _ _ _
              refine z_if_eqF rfl (by decide) (by decide) ?_
              refine z_aload rfl rfl ?_
              refine z_iload rfl rfl ?_
              refine z_callVi (As := [_]) (le := [some _, some _]) rfl rfl rfl (Nat.le_of_ble_eq_true rfl) (Nat.le_of_ble_eq_true rfl) rfl ?_
              refine z_iload rfl rfl ?_
              refine z_pushI (z := 0) rfl rfl ?_
              refine z_aload rfl rfl ?_
              refine z_getI (v := J 50 1) rfl rfl (rfl) ?_
              refine z_pushI (z := 1) rfl rfl ?_
              refine z_isub (e := (J 50 1) - 1) rfl rfl ?_
              refine z_callSi (As := [_, _, _]) (le := [some _, some _, some _]) rfl rfl (Nat.le_of_ble_eq_true rfl) (Nat.le_of_ble_eq_true rfl) rfl ?_
              refine z_iload rfl rfl ?_
              refine z_iload rfl rfl ?_
              refine z_icmp_lt rfl (by omega) (by decide) (fun h7 => ?_) (fun h7 => ?_)
              · refine z_pushI (z := 0) rfl rfl ?_
                refine z_bret rfl rfl (by decide) ?_
                show zW _ _ _ _ _ _ _ _ _ _
                refine z_bret rfl rfl (by decide) ?_
                show zW _ _ _ _ _ _ _ _ _ _
                refine z_if_neF rfl (by decide) (by decide) ?_
                refine z_pushI (z := (-1)) rfl rfl ?_
                refine z_goto rfl ?_
                refine z_iret rfl rfl ?_
                refine ⟨?_, ?_⟩
                · first | exact congrArg (fun v => some (zi v)) (d9 p (by omega) (by omega)).1.symm | (exfalso; omega)
                · exact hr
              · refine z_iload rfl rfl ?_
                refine z_iload rfl rfl ?_
                refine z_icmp_gt rfl (by omega) (by omega) (fun h8 => ?_) (fun h8 => ?_)
                · refine z_pushI (z := 0) rfl rfl ?_
                  refine z_bret rfl rfl (by decide) ?_
                  show zW _ _ _ _ _ _ _ _ _ _
                  refine z_bret rfl rfl (by decide) ?_
                  show zW _ _ _ _ _ _ _ _ _ _
                  refine z_if_neF rfl (by decide) (by decide) ?_
                  refine z_pushI (z := (-1)) rfl rfl ?_
                  refine z_goto rfl ?_
                  refine z_iret rfl rfl ?_
                  refine ⟨?_, ?_⟩
                  · first | exact congrArg (fun v => some (zi v)) (d9 p (by omega) (by omega)).1.symm | (exfalso; omega)
                  · exact hr
                · refine z_pushI (z := 1) rfl rfl ?_
                  refine z_goto rfl ?_
                  refine z_bret rfl rfl (by decide) ?_
                  show zW _ _ _ _ _ _ _ _ _ _
                  refine z_bret rfl rfl (by decide) ?_
                  show zW _ _ _ _ _ _ _ _ _ _
                  refine z_if_neT rfl (by decide) (by decide) ?_
                  refine z_iload rfl rfl ?_
                  refine z_pushI (z := 14) rfl rfl ?_
                  refine z_icmp_ne rfl (by omega) (by decide) (fun h9 => ?_) (fun h9 => ?_)
                  · refine z_aload rfl rfl ?_
                    refine z_getR (r := 76) rfl rfl (hRr _ rm_50_43 (by decide)) ?_
                    refine z_iload rfl rfl ?_
                    refine z_iald (v := J 76 p) rfl rfl (by decide) (by omega) (rfl) ?_
                    refine z_iret rfl rfl ?_
                    refine ⟨?_, ?_⟩
                    · first | exact congrArg (fun v => some (zi v)) (d9 p (by omega) (by omega)).1.symm | (exfalso; omega)
                    · exact hr
                  · refine z_aload rfl rfl ?_
                    refine z_getR (r := 75) rfl rfl (hRr _ rm_50_42 (by decide)) ?_
                    refine z_iload rfl rfl ?_
                    refine z_iald (v := J 75 p) rfl rfl (by decide) (by omega) (rfl) ?_
                    refine z_goto rfl ?_
                    refine z_iret rfl rfl ?_
                    refine ⟨?_, ?_⟩
                    · first | exact congrArg (fun v => some (zi v)) (d9 p (by omega) (by omega)).1.symm | (exfalso; omega)
                    · exact hr
  · refine z_iload rfl rfl ?_
    refine z_pushI (z := 15) rfl rfl ?_
    refine z_icmp_ne rfl (by omega) (by decide) (fun h5 => ?_) (fun h5 => ?_)
    · refine z_aload rfl rfl ?_
      refine z_getR (r := 8) rfl rfl (hR _ rm_0_1) ?_
      refine z_iload rfl rfl ?_
      refine z_iload rfl rfl ?_
      refine z_callVP (As := [_, _]) (v := 0) rfl rfl rfl (Nat.le_of_ble_eq_true rfl) (Nat.le_of_ble_eq_true rfl) (isNumber_0 hR rfl yn hp hw (by unfold zV; omega)) ?_
      refine z_if_eqT rfl (by decide) (by decide) ?_
      refine z_pushI (z := (-1)) rfl rfl ?_
      refine z_iret rfl rfl ?_
      refine ⟨_, rfl, ?_⟩
      show zW _ _ _ _ [some (.ref 50), some (zi p), some (zi w)] _ _ _ _ _
      refine z_iload rfl rfl ?_
      refine z_pushI (z := 14) rfl rfl ?_
      refine z_pushI (z := 15) rfl rfl ?_
      refine z_callSi (As := [_, _, _]) (le := [some _, some _, some _]) rfl rfl (Nat.le_of_ble_eq_true rfl) (Nat.le_of_ble_eq_true rfl) rfl ?_
      refine z_iload rfl rfl ?_
      refine z_iload rfl rfl ?_
      refine z_icmp_lt rfl (by omega) (by decide) (fun h6 => ?_) (fun h6 => ?_)
      · refine z_pushI (z := 0) rfl rfl ?_
        refine z_bret rfl rfl (by decide) ?_
        show zW _ _ _ _ _ _ _ _ _ _
        refine z_if_eqT rfl (by decide) (by decide) ?_
        refine z_aload rfl rfl ?_
        refine z_iload rfl rfl ?_
        refine z_iload rfl rfl ?_
        refine z_callVP (As := [_, _]) (v := 0) rfl rfl rfl (Nat.le_of_ble_eq_true rfl) (Nat.le_of_ble_eq_true rfl) (isOne_0 hRr y2.symm yn hp hw (by unfold zV; omega)) ?_
        refine z_if_eqT rfl (by decide) (by decide) ?_
        refine z_pushI (z := (-1)) rfl rfl ?_
        refine z_iret rfl rfl ?_
        refine ⟨?_, ?_⟩
        · first | rfl | exact congrArg (fun v => some (zi v)) (by omega) | (exfalso; omega)
        · exact hr
      · refine z_iload rfl rfl ?_
        refine z_iload rfl rfl ?_
        refine z_icmp_gt rfl (by omega) (by decide) (fun h7 => ?_) (fun h7 => ?_)
        · refine z_pushI (z := 0) rfl rfl ?_
          refine z_bret rfl rfl (by decide) ?_
          show zW _ _ _ _ _ _ _ _ _ _
          refine z_if_eqT rfl (by decide) (by decide) ?_
          refine z_aload rfl rfl ?_
          refine z_iload rfl rfl ?_
          refine z_iload rfl rfl ?_
          refine z_callVP (As := [_, _]) (v := 0) rfl rfl rfl (Nat.le_of_ble_eq_true rfl) (Nat.le_of_ble_eq_true rfl) (isOne_0 hRr y2.symm yn hp hw (by unfold zV; omega)) ?_
          refine z_if_eqT rfl (by decide) (by decide) ?_
          refine z_pushI (z := (-1)) rfl rfl ?_
          refine z_iret rfl rfl ?_
          refine ⟨?_, ?_⟩
          · first | rfl | exact congrArg (fun v => some (zi v)) (by omega) | (exfalso; omega)
          · exact hr
        · refine z_pushI (z := 1) rfl rfl ?_
          refine z_goto rfl ?_
          refine z_bret rfl rfl (by decide) ?_
          show zW _ _ _ _ _ _ _ _ _ _
          refine z_if_eqF rfl (by decide) (by decide) ?_
          refine z_aload rfl rfl ?_
          refine z_iload rfl rfl ?_
          refine z_callVi (As := [_]) (le := [some _, some _]) rfl rfl rfl (Nat.le_of_ble_eq_true rfl) (Nat.le_of_ble_eq_true rfl) rfl ?_
          refine z_iload rfl rfl ?_
          refine z_pushI (z := 0) rfl rfl ?_
          refine z_aload rfl rfl ?_
          refine z_getI (v := J 50 1) rfl rfl (rfl) ?_
          refine z_pushI (z := 1) rfl rfl ?_
          refine z_isub (e := (J 50 1) - 1) rfl rfl ?_
          refine z_callSi (As := [_, _, _]) (le := [some _, some _, some _]) rfl rfl (Nat.le_of_ble_eq_true rfl) (Nat.le_of_ble_eq_true rfl) rfl ?_
          refine z_iload rfl rfl ?_
          refine z_iload rfl rfl ?_
          refine z_icmp_lt rfl (by omega) (by decide) (fun h8 => ?_) (fun h8 => ?_)
          · refine z_pushI (z := 0) rfl rfl ?_
            refine z_bret rfl rfl (by decide) ?_
            show zW _ _ _ _ _ _ _ _ _ _
            refine z_bret rfl rfl (by decide) ?_
            show zW _ _ _ _ _ _ _ _ _ _
            refine z_if_neF rfl (by decide) (by decide) ?_
            refine z_pushI (z := (-1)) rfl rfl ?_
            refine z_goto rfl ?_
            refine z_iret rfl rfl ?_
            refine ⟨?_, ?_⟩
            · first | rfl | exact congrArg (fun v => some (zi v)) (by omega) | (exfalso; omega)
            · exact hr
          · refine z_iload rfl rfl ?_
            refine z_iload rfl rfl ?_
            refine z_icmp_gt rfl (by omega) (by omega) (fun h9 => ?_) (fun h9 => ?_)
            · refine z_pushI (z := 0) rfl rfl ?_
              refine z_bret rfl rfl (by decide) ?_
              show zW _ _ _ _ _ _ _ _ _ _
              refine z_bret rfl rfl (by decide) ?_
              show zW _ _ _ _ _ _ _ _ _ _
              refine z_if_neF rfl (by decide) (by decide) ?_
              refine z_pushI (z := (-1)) rfl rfl ?_
              refine z_goto rfl ?_
              refine z_iret rfl rfl ?_
              refine ⟨?_, ?_⟩
              · first | rfl | exact congrArg (fun v => some (zi v)) (by omega) | (exfalso; omega)
              · exact hr
            · refine z_pushI (z := 1) rfl rfl ?_
              refine z_goto rfl ?_
              refine z_bret rfl rfl (by decide) ?_
              show zW _ _ _ _ _ _ _ _ _ _
              refine z_bret rfl rfl (by decide) ?_
              show zW _ _ _ _ _ _ _ _ _ _
              refine z_if_neT rfl (by decide) (by decide) ?_
              refine z_iload rfl rfl ?_
              refine z_pushI (z := 14) rfl rfl ?_
              refine z_icmp_ne rfl (by omega) (by decide) (fun h10 => ?_) (fun h10 => ?_)
              · refine z_aload rfl rfl ?_
                refine z_getR (r := 76) rfl rfl (hRr _ rm_50_43 (by decide)) ?_
                refine z_iload rfl rfl ?_
                refine z_iald (v := J 76 p) rfl rfl (by decide) (by omega) (rfl) ?_
                refine z_iret rfl rfl ?_
                refine ⟨?_, ?_⟩
                · first | rfl | exact congrArg (fun v => some (zi v)) (by omega) | (exfalso; omega)
                · exact hr
              · refine z_aload rfl rfl ?_
                refine z_getR (r := 75) rfl rfl (hRr _ rm_50_42 (by decide)) ?_
                refine z_iload rfl rfl ?_
                refine z_iald (v := J 75 p) rfl rfl (by decide) (by omega) (rfl) ?_
                refine z_goto rfl ?_
                refine z_iret rfl rfl ?_
                refine ⟨?_, ?_⟩
                · first | rfl | exact congrArg (fun v => some (zi v)) (by omega) | (exfalso; omega)
                · exact hr
    · refine z_aload rfl rfl ?_
      refine z_getR (r := 8) rfl rfl (hR _ rm_0_1) ?_
      refine z_iload rfl rfl ?_
      refine z_callVi (As := [_]) (le := [some _, some _]) rfl rfl rfl (Nat.le_of_ble_eq_true rfl) (Nat.le_of_ble_eq_true rfl) rfl ?_
      refine z_iload rfl rfl ?_
      refine z_if_lt rfl (by omega) (fun h6 => ?_) (fun h6 => ?_)
      · refine z_pushI (z := 0) rfl rfl ?_
        refine z_bret rfl rfl (by decide) ?_
        show zW _ _ _ _ _ _ _ _ _ _
        refine z_if_neF rfl (by decide) (by decide) ?_
        refine z_pushI (z := (-1)) rfl rfl ?_
        refine z_iret rfl rfl ?_
        refine ⟨_, rfl, ?_⟩
        show zW _ _ _ _ [some (.ref 50), some (zi p), some (zi w)] _ _ _ _ _
        refine z_iload rfl rfl ?_
        refine z_pushI (z := 14) rfl rfl ?_
        refine z_pushI (z := 15) rfl rfl ?_
        refine z_callSi (As := [_, _, _]) (le := [some _, some _, some _]) rfl rfl (Nat.le_of_ble_eq_true rfl) (Nat.le_of_ble_eq_true rfl) rfl ?_
        refine z_iload rfl rfl ?_
        refine z_iload rfl rfl ?_
        refine z_icmp_lt rfl (by omega) (by decide) (fun h7 => ?_) (fun h7 => ?_)
        · refine z_pushI (z := 0) rfl rfl ?_
          refine z_bret rfl rfl (by decide) ?_
          show zW _ _ _ _ _ _ _ _ _ _
          refine z_if_eqT rfl (by decide) (by decide) ?_
          refine z_aload rfl rfl ?_
          refine z_iload rfl rfl ?_
          refine z_iload rfl rfl ?_
          refine z_callVP (As := [_, _]) (v := 0) rfl rfl rfl (Nat.le_of_ble_eq_true rfl) (Nat.le_of_ble_eq_true rfl) (isOne_0 hRr y2.symm yn hp hw (by unfold zV; omega)) ?_
          refine z_if_eqT rfl (by decide) (by decide) ?_
          refine z_pushI (z := (-1)) rfl rfl ?_
          refine z_iret rfl rfl ?_
          refine ⟨?_, ?_⟩
          · first | rfl | exact congrArg (fun v => some (zi v)) (by omega) | (exfalso; omega)
          · exact hr
        · refine z_iload rfl rfl ?_
          refine z_iload rfl rfl ?_
          refine z_icmp_gt rfl (by omega) (by decide) (fun h8 => ?_) (fun h8 => ?_)
          · refine z_pushI (z := 0) rfl rfl ?_
            refine z_bret rfl rfl (by decide) ?_
            show zW _ _ _ _ _ _ _ _ _ _
            refine z_if_eqT rfl (by decide) (by decide) ?_
            refine z_aload rfl rfl ?_
            refine z_iload rfl rfl ?_
            refine z_iload rfl rfl ?_
            refine z_callVP (As := [_, _]) (v := 0) rfl rfl rfl (Nat.le_of_ble_eq_true rfl) (Nat.le_of_ble_eq_true rfl) (isOne_0 hRr y2.symm yn hp hw (by unfold zV; omega)) ?_
            refine z_if_eqT rfl (by decide) (by decide) ?_
            refine z_pushI (z := (-1)) rfl rfl ?_
            refine z_iret rfl rfl ?_
            refine ⟨?_, ?_⟩
            · first | rfl | exact congrArg (fun v => some (zi v)) (by omega) | (exfalso; omega)
            · exact hr
          · refine z_pushI (z := 1) rfl rfl ?_
            refine z_goto rfl ?_
            refine z_bret rfl rfl (by decide) ?_
            show zW _ _ _ _ _ _ _ _ _ _
            refine z_if_eqF rfl (by decide) (by decide) ?_
            refine z_aload rfl rfl ?_
            refine z_iload rfl rfl ?_
            refine z_callVi (As := [_]) (le := [some _, some _]) rfl rfl rfl (Nat.le_of_ble_eq_true rfl) (Nat.le_of_ble_eq_true rfl) rfl ?_
            refine z_iload rfl rfl ?_
            refine z_pushI (z := 0) rfl rfl ?_
            refine z_aload rfl rfl ?_
            refine z_getI (v := J 50 1) rfl rfl (rfl) ?_
            refine z_pushI (z := 1) rfl rfl ?_
            refine z_isub (e := (J 50 1) - 1) rfl rfl ?_
            refine z_callSi (As := [_, _, _]) (le := [some _, some _, some _]) rfl rfl (Nat.le_of_ble_eq_true rfl) (Nat.le_of_ble_eq_true rfl) rfl ?_
            refine z_iload rfl rfl ?_
            refine z_iload rfl rfl ?_
            refine z_icmp_lt rfl (by omega) (by decide) (fun h9 => ?_) (fun h9 => ?_)
            · refine z_pushI (z := 0) rfl rfl ?_
              refine z_bret rfl rfl (by decide) ?_
              show zW _ _ _ _ _ _ _ _ _ _
              refine z_bret rfl rfl (by decide) ?_
              show zW _ _ _ _ _ _ _ _ _ _
              refine z_if_neF rfl (by decide) (by decide) ?_
              refine z_pushI (z := (-1)) rfl rfl ?_
              refine z_goto rfl ?_
              refine z_iret rfl rfl ?_
              refine ⟨?_, ?_⟩
              · first | rfl | exact congrArg (fun v => some (zi v)) (by omega) | (exfalso; omega)
              · exact hr
            · refine z_iload rfl rfl ?_
              refine z_iload rfl rfl ?_
              refine z_icmp_gt rfl (by omega) (by omega) (fun h10 => ?_) (fun h10 => ?_)
              · refine z_pushI (z := 0) rfl rfl ?_
                refine z_bret rfl rfl (by decide) ?_
                show zW _ _ _ _ _ _ _ _ _ _
                refine z_bret rfl rfl (by decide) ?_
                show zW _ _ _ _ _ _ _ _ _ _
                refine z_if_neF rfl (by decide) (by decide) ?_
                refine z_pushI (z := (-1)) rfl rfl ?_
                refine z_goto rfl ?_
                refine z_iret rfl rfl ?_
                refine ⟨?_, ?_⟩
                · first | rfl | exact congrArg (fun v => some (zi v)) (by omega) | (exfalso; omega)
                · exact hr
              · refine z_pushI (z := 1) rfl rfl ?_
                refine z_goto rfl ?_
                refine z_bret rfl rfl (by decide) ?_
                show zW _ _ _ _ _ _ _ _ _ _
                refine z_bret rfl rfl (by decide) ?_
                show zW _ _ _ _ _ _ _ _ _ _
                refine z_if_neT rfl (by decide) (by decide) ?_
                refine z_iload rfl rfl ?_
                refine z_pushI (z := 14) rfl rfl ?_
                refine z_icmp_ne rfl (by omega) (by decide) (fun h11 => ?_) (fun h11 => ?_)
                · refine z_aload rfl rfl ?_
                  refine z_getR (r := 76) rfl rfl (hRr _ rm_50_43 (by decide)) ?_
                  refine z_iload rfl rfl ?_
                  refine z_iald (v := J 76 p) rfl rfl (by decide) (by omega) (rfl) ?_
                  refine z_iret rfl rfl ?_
                  refine ⟨?_, ?_⟩
                  · first | rfl | exact congrArg (fun v => some (zi v)) (by omega) | (exfalso; omega)
                  · exact hr
                · refine z_aload rfl rfl ?_
                  refine z_getR (r := 75) rfl rfl (hRr _ rm_50_42 (by decide)) ?_
                  refine z_iload rfl rfl ?_
                  refine z_iald (v := J 75 p) rfl rfl (by decide) (by omega) (rfl) ?_
                  refine z_goto rfl ?_
                  refine z_iret rfl rfl ?_
                  refine ⟨?_, ?_⟩
                  · first | rfl | exact congrArg (fun v => some (zi v)) (by omega) | (exfalso; omega)
                  · exact hr
      · refine z_iload rfl rfl ?_
        refine z_aload rfl rfl ?_
        refine z_getI (v := J 8 2) rfl rfl (rfl) ?_
        refine z_icmp_ge rfl (by omega) (by omega) (fun h7 => ?_) (fun h7 => ?_)
        · refine z_pushI (z := 0) rfl rfl ?_
          refine z_bret rfl rfl (by decide) ?_
          show zW _ _ _ _ _ _ _ _ _ _
          refine z_if_neF rfl (by decide) (by decide) ?_
          refine z_pushI (z := (-1)) rfl rfl ?_
          refine z_iret rfl rfl ?_
          refine ⟨_, rfl, ?_⟩
          show zW _ _ _ _ [some (.ref 50), some (zi p), some (zi w)] _ _ _ _ _
          refine z_iload rfl rfl ?_
          refine z_pushI (z := 14) rfl rfl ?_
          refine z_pushI (z := 15) rfl rfl ?_
          refine z_callSi (As := [_, _, _]) (le := [some _, some _, some _]) rfl rfl (Nat.le_of_ble_eq_true rfl) (Nat.le_of_ble_eq_true rfl) rfl ?_
          refine z_iload rfl rfl ?_
          refine z_iload rfl rfl ?_
          refine z_icmp_lt rfl (by omega) (by decide) (fun h8 => ?_) (fun h8 => ?_)
          · refine z_pushI (z := 0) rfl rfl ?_
            refine z_bret rfl rfl (by decide) ?_
            show zW _ _ _ _ _ _ _ _ _ _
            refine z_if_eqT rfl (by decide) (by decide) ?_
            refine z_aload rfl rfl ?_
            refine z_iload rfl rfl ?_
            refine z_iload rfl rfl ?_
            refine z_callVP (As := [_, _]) (v := 0) rfl rfl rfl (Nat.le_of_ble_eq_true rfl) (Nat.le_of_ble_eq_true rfl) (isOne_0 hRr y2.symm yn hp hw (by unfold zV; omega)) ?_
            refine z_if_eqT rfl (by decide) (by decide) ?_
            refine z_pushI (z := (-1)) rfl rfl ?_
            refine z_iret rfl rfl ?_
            refine ⟨?_, ?_⟩
            · first | rfl | exact congrArg (fun v => some (zi v)) (by omega) | (exfalso; omega)
            · exact hr
          · refine z_iload rfl rfl ?_
            refine z_iload rfl rfl ?_
            refine z_icmp_gt rfl (by omega) (by decide) (fun h9 => ?_) (fun h9 => ?_)
            · refine z_pushI (z := 0) rfl rfl ?_
              refine z_bret rfl rfl (by decide) ?_
              show zW _ _ _ _ _ _ _ _ _ _
              refine z_if_eqT rfl (by decide) (by decide) ?_
              refine z_aload rfl rfl ?_
              refine z_iload rfl rfl ?_
              refine z_iload rfl rfl ?_
              refine z_callVP (As := [_, _]) (v := 0) rfl rfl rfl (Nat.le_of_ble_eq_true rfl) (Nat.le_of_ble_eq_true rfl) (isOne_0 hRr y2.symm yn hp hw (by unfold zV; omega)) ?_
              refine z_if_eqT rfl (by decide) (by decide) ?_
              refine z_pushI (z := (-1)) rfl rfl ?_
              refine z_iret rfl rfl ?_
              refine ⟨?_, ?_⟩
              · first | rfl | exact congrArg (fun v => some (zi v)) (by omega) | (exfalso; omega)
              · exact hr
            · refine z_pushI (z := 1) rfl rfl ?_
              refine z_goto rfl ?_
              refine z_bret rfl rfl (by decide) ?_
              show zW _ _ _ _ _ _ _ _ _ _
              refine z_if_eqF rfl (by decide) (by decide) ?_
              refine z_aload rfl rfl ?_
              refine z_iload rfl rfl ?_
              refine z_callVi (As := [_]) (le := [some _, some _]) rfl rfl rfl (Nat.le_of_ble_eq_true rfl) (Nat.le_of_ble_eq_true rfl) rfl ?_
              refine z_iload rfl rfl ?_
              refine z_pushI (z := 0) rfl rfl ?_
              refine z_aload rfl rfl ?_
              refine z_getI (v := J 50 1) rfl rfl (rfl) ?_
              refine z_pushI (z := 1) rfl rfl ?_
              refine z_isub (e := (J 50 1) - 1) rfl rfl ?_
              refine z_callSi (As := [_, _, _]) (le := [some _, some _, some _]) rfl rfl (Nat.le_of_ble_eq_true rfl) (Nat.le_of_ble_eq_true rfl) rfl ?_
              refine z_iload rfl rfl ?_
              refine z_iload rfl rfl ?_
              refine z_icmp_lt rfl (by omega) (by decide) (fun h10 => ?_) (fun h10 => ?_)
              · refine z_pushI (z := 0) rfl rfl ?_
                refine z_bret rfl rfl (by decide) ?_
                show zW _ _ _ _ _ _ _ _ _ _
                refine z_bret rfl rfl (by decide) ?_
                show zW _ _ _ _ _ _ _ _ _ _
                refine z_if_neF rfl (by decide) (by decide) ?_
                refine z_pushI (z := (-1)) rfl rfl ?_
                refine z_goto rfl ?_
                refine z_iret rfl rfl ?_
                refine ⟨?_, ?_⟩
                · first | rfl | exact congrArg (fun v => some (zi v)) (by omega) | (exfalso; omega)
                · exact hr
              · refine z_iload rfl rfl ?_
                refine z_iload rfl rfl ?_
                refine z_icmp_gt rfl (by omega) (by omega) (fun h11 => ?_) (fun h11 => ?_)
                · refine z_pushI (z := 0) rfl rfl ?_
                  refine z_bret rfl rfl (by decide) ?_
                  show zW _ _ _ _ _ _ _ _ _ _
                  refine z_bret rfl rfl (by decide) ?_
                  show zW _ _ _ _ _ _ _ _ _ _
                  refine z_if_neF rfl (by decide) (by decide) ?_
                  refine z_pushI (z := (-1)) rfl rfl ?_
                  refine z_goto rfl ?_
                  refine z_iret rfl rfl ?_
                  refine ⟨?_, ?_⟩
                  · first | rfl | exact congrArg (fun v => some (zi v)) (by omega) | (exfalso; omega)
                  · exact hr
                · refine z_pushI (z := 1) rfl rfl ?_
                  refine z_goto rfl ?_
                  refine z_bret rfl rfl (by decide) ?_
                  show zW _ _ _ _ _ _ _ _ _ _
                  refine z_bret rfl rfl (by decide) ?_
                  show zW _ _ _ _ _ _ _ _ _ _
                  refine z_if_neT rfl (by decide) (by decide) ?_
                  refine z_iload rfl rfl ?_
                  refine z_pushI (z := 14) rfl rfl ?_
                  refine z_icmp_ne rfl (by omega) (by decide) (fun h12 => ?_) (fun h12 => ?_)
                  · refine z_aload rfl rfl ?_
                    refine z_getR (r := 76) rfl rfl (hRr _ rm_50_43 (by decide)) ?_
                    refine z_iload rfl rfl ?_
                    refine z_iald (v := J 76 p) rfl rfl (by decide) (by omega) (rfl) ?_
                    refine z_iret rfl rfl ?_
                    refine ⟨?_, ?_⟩
                    · first | rfl | exact congrArg (fun v => some (zi v)) (by omega) | (exfalso; omega)
                    · exact hr
                  · refine z_aload rfl rfl ?_
                    refine z_getR (r := 75) rfl rfl (hRr _ rm_50_42 (by decide)) ?_
                    refine z_iload rfl rfl ?_
                    refine z_iald (v := J 75 p) rfl rfl (by decide) (by omega) (rfl) ?_
                    refine z_goto rfl ?_
                    refine z_iret rfl rfl ?_
                    refine ⟨?_, ?_⟩
                    · first | rfl | exact congrArg (fun v => some (zi v)) (by omega) | (exfalso; omega)
                    · exact hr
        · refine z_pushI (z := 1) rfl rfl ?_
          refine z_goto rfl ?_
          refine z_bret rfl rfl (by decide) ?_
          show zW _ _ _ _ _ _ _ _ _ _
          refine z_if_neT rfl (by decide) (by decide) ?_
          refine z_iload rfl rfl ?_
          refine z_pushI (z := 14) rfl rfl ?_
          refine z_icmp_ne rfl (by omega) (by decide) (fun h8 => ?_) (fun h8 => ?_)
          · refine z_aload rfl rfl ?_
            refine z_getR (r := 23) rfl rfl (hR _ rm_0_6) ?_
            refine z_getR (r := 25) rfl rfl (hR _ rm_23_2) ?_
            refine z_iload rfl rfl ?_
            refine z_iald (v := J 25 p) rfl rfl (by decide) (by omega) (rfl) ?_
            refine z_iret rfl rfl ?_
            refine ⟨_, rfl, ?_⟩
            show zW _ _ _ _ [some (.ref 50), some (zi p), some (zi w)] _ _ _ _ _
            refine z_iload rfl rfl ?_
            refine z_pushI (z := 14) rfl rfl ?_
            refine z_pushI (z := 15) rfl rfl ?_
            refine z_callSi (As := [_, _, _]) (le := [some _, some _, some _]) rfl rfl (Nat.le_of_ble_eq_true rfl) (Nat.le_of_ble_eq_true rfl) rfl ?_
            refine z_iload rfl rfl ?_
            refine z_iload rfl rfl ?_
            refine z_icmp_lt rfl (by omega) (by decide) (fun h9 => ?_) (fun h9 => ?_)
            · refine z_pushI (z := 0) rfl rfl ?_
              refine z_bret rfl rfl (by decide) ?_
              show zW _ _ _ _ _ _ _ _ _ _
              refine z_if_eqT rfl (by decide) (by decide) ?_
              refine z_aload rfl rfl ?_
              refine z_iload rfl rfl ?_
              refine z_iload rfl rfl ?_
              refine z_callVP (As := [_, _]) (v := 0) rfl rfl rfl (Nat.le_of_ble_eq_true rfl) (Nat.le_of_ble_eq_true rfl) (isOne_0 hRr y2.symm yn hp hw (by unfold zV; omega)) ?_
              refine z_if_eqT rfl (by decide) (by decide) ?_
              refine z_pushI (z := (-1)) rfl rfl ?_
              refine z_iret rfl rfl ?_
              refine ⟨?_, ?_⟩
              · first | exact congrArg (fun v => some (zi v)) (d9 p (by omega) (by omega)).2.symm | (exfalso; omega)
              · exact hr
            · refine z_iload rfl rfl ?_
              refine z_iload rfl rfl ?_
              refine z_icmp_gt rfl (by omega) (by decide) (fun h10 => ?_) (fun h10 => ?_)
              · refine z_pushI (z := 0) rfl rfl ?_
                refine z_bret rfl rfl (by decide) ?_
                show zW _ _ _ _ _ _ _ _ _ _
                refine z_if_eqT rfl (by decide) (by decide) ?_
                refine z_aload rfl rfl ?_
                refine z_iload rfl rfl ?_
                refine z_iload rfl rfl ?_
                refine z_callVP (As := [_, _]) (v := 0) rfl rfl rfl (Nat.le_of_ble_eq_true rfl) (Nat.le_of_ble_eq_true rfl) (isOne_0 hRr y2.symm yn hp hw (by unfold zV; omega)) ?_
                refine z_if_eqT rfl (by decide) (by decide) ?_
                refine z_pushI (z := (-1)) rfl rfl ?_
                refine z_iret rfl rfl ?_
                refine ⟨?_, ?_⟩
                · first | exact congrArg (fun v => some (zi v)) (d9 p (by omega) (by omega)).2.symm | (exfalso; omega)
                · exact hr
              · refine z_pushI (z := 1) rfl rfl ?_
                refine z_goto rfl ?_
                refine z_bret rfl rfl (by decide) ?_
                show zW _ _ _ _ _ _ _ _ _ _
                refine z_if_eqF rfl (by decide) (by decide) ?_
                refine z_aload rfl rfl ?_
                refine z_iload rfl rfl ?_
                refine z_callVi (As := [_]) (le := [some _, some _]) rfl rfl rfl (Nat.le_of_ble_eq_true rfl) (Nat.le_of_ble_eq_true rfl) rfl ?_
                refine z_iload rfl rfl ?_
                refine z_pushI (z := 0) rfl rfl ?_
                refine z_aload rfl rfl ?_
                refine z_getI (v := J 50 1) rfl rfl (rfl) ?_
                refine z_pushI (z := 1) rfl rfl ?_
                refine z_isub (e := (J 50 1) - 1) rfl rfl ?_
                refine z_callSi (As := [_, _, _]) (le := [some _, some _, some _]) rfl rfl (Nat.le_of_ble_eq_true rfl) (Nat.le_of_ble_eq_true rfl) rfl ?_
                refine z_iload rfl rfl ?_
                refine z_iload rfl rfl ?_
                refine z_icmp_lt rfl (by omega) (by decide) (fun h11 => ?_) (fun h11 => ?_)
                · refine z_pushI (z := 0) rfl rfl ?_
                  refine z_bret rfl rfl (by decide) ?_
                  show zW _ _ _ _ _ _ _ _ _ _
                  refine z_bret rfl rfl (by decide) ?_
                  show zW _ _ _ _ _ _ _ _ _ _
                  refine z_if_neF rfl (by decide) (by decide) ?_
                  refine z_pushI (z := (-1)) rfl rfl ?_
                  refine z_goto rfl ?_
                  refine z_iret rfl rfl ?_
                  refine ⟨?_, ?_⟩
                  · first | exact congrArg (fun v => some (zi v)) (d9 p (by omega) (by omega)).2.symm | (exfalso; omega)
                  · exact hr
                · refine z_iload rfl rfl ?_
                  refine z_iload rfl rfl ?_
                  refine z_icmp_gt rfl (by omega) (by omega) (fun h12 => ?_) (fun h12 => ?_)
                  · refine z_pushI (z := 0) rfl rfl ?_
                    refine z_bret rfl rfl (by decide) ?_
                    show zW _ _ _ _ _ _ _ _ _ _
                    refine z_bret rfl rfl (by decide) ?_
                    show zW _ _ _ _ _ _ _ _ _ _
                    refine z_if_neF rfl (by decide) (by decide) ?_
                    refine z_pushI (z := (-1)) rfl rfl ?_
                    refine z_goto rfl ?_
                    refine z_iret rfl rfl ?_
                    refine ⟨?_, ?_⟩
                    · first | exact congrArg (fun v => some (zi v)) (d9 p (by omega) (by omega)).2.symm | (exfalso; omega)
                    · exact hr
                  · refine z_pushI (z := 1) rfl rfl ?_
                    refine z_goto rfl ?_
                    refine z_bret rfl rfl (by decide) ?_
                    show zW _ _ _ _ _ _ _ _ _ _
                    refine z_bret rfl rfl (by decide) ?_
                    show zW _ _ _ _ _ _ _ _ _ _
                    refine z_if_neT rfl (by decide) (by decide) ?_
                    refine z_iload rfl rfl ?_
                    refine z_pushI (z := 14) rfl rfl ?_
                    refine z_icmp_ne rfl (by omega) (by decide) (fun h13 => ?_) (fun h13 => ?_)
                    · refine z_aload rfl rfl ?_
                      refine z_getR (r := 76) rfl rfl (hRr _ rm_50_43 (by decide)) ?_
                      refine z_iload rfl rfl ?_
                      refine z_iald (v := J 76 p) rfl rfl (by decide) (by omega) (rfl) ?_
                      refine z_iret rfl rfl ?_
                      refine ⟨?_, ?_⟩
                      · first | exact congrArg (fun v => some (zi v)) (d9 p (by omega) (by omega)).2.symm | (exfalso; omega)
                      · exact hr
                    · refine z_aload rfl rfl ?_
                      refine z_getR (r := 75) rfl rfl (hRr _ rm_50_42 (by decide)) ?_
                      refine z_iload rfl rfl ?_
                      refine z_iald (v := J 75 p) rfl rfl (by decide) (by omega) (rfl) ?_
                      refine z_goto rfl ?_
                      refine z_iret rfl rfl ?_
                      refine ⟨?_, ?_⟩
                      · first | exact congrArg (fun v => some (zi v)) (d9 p (by omega) (by omega)).2.symm | (exfalso; omega)
                      · exact hr
          · refine z_aload rfl rfl ?_
            refine z_getR (r := 23) rfl rfl (hR _ rm_0_6) ?_
            refine z_getR (r := 24) rfl rfl (hR _ rm_23_1) ?_
            refine z_iload rfl rfl ?_
            refine z_iald (v := J 24 p) rfl rfl (by decide) (by omega) (rfl) ?_
            refine z_goto rfl ?_
            refine z_iret rfl rfl ?_
            refine ⟨_, rfl, ?_⟩
            show zW _ _ _ _ [some (.ref 50), some (zi p), some (zi w)] _ _ _ _ _
            refine z_iload rfl rfl ?_
            refine z_pushI (z := 14) rfl rfl ?_
            refine z_pushI (z := 15) rfl rfl ?_
            refine z_callSi (As := [_, _, _]) (le := [some _, some _, some _]) rfl rfl (Nat.le_of_ble_eq_true rfl) (Nat.le_of_ble_eq_true rfl) rfl ?_
            refine z_iload rfl rfl ?_
            refine z_iload rfl rfl ?_
            refine z_icmp_lt rfl (by omega) (by decide) (fun h9 => ?_) (fun h9 => ?_)
            · refine z_pushI (z := 0) rfl rfl ?_
              refine z_bret rfl rfl (by decide) ?_
              show zW _ _ _ _ _ _ _ _ _ _
              refine z_if_eqT rfl (by decide) (by decide) ?_
              refine z_aload rfl rfl ?_
              refine z_iload rfl rfl ?_
              refine z_iload rfl rfl ?_
              refine z_callVP (As := [_, _]) (v := 0) rfl rfl rfl (Nat.le_of_ble_eq_true rfl) (Nat.le_of_ble_eq_true rfl) (isOne_0 hRr y2.symm yn hp hw (by unfold zV; omega)) ?_
              refine z_if_eqT rfl (by decide) (by decide) ?_
              refine z_pushI (z := (-1)) rfl rfl ?_
              refine z_iret rfl rfl ?_
              refine ⟨?_, ?_⟩
              · first | exact congrArg (fun v => some (zi v)) (d9 p (by omega) (by omega)).1.symm | (exfalso; omega)
              · exact hr
            · refine z_iload rfl rfl ?_
              refine z_iload rfl rfl ?_
              refine z_icmp_gt rfl (by omega) (by decide) (fun h10 => ?_) (fun h10 => ?_)
              · refine z_pushI (z := 0) rfl rfl ?_
                refine z_bret rfl rfl (by decide) ?_
                show zW _ _ _ _ _ _ _ _ _ _
                refine z_if_eqT rfl (by decide) (by decide) ?_
                refine z_aload rfl rfl ?_
                refine z_iload rfl rfl ?_
                refine z_iload rfl rfl ?_
                refine z_callVP (As := [_, _]) (v := 0) rfl rfl rfl (Nat.le_of_ble_eq_true rfl) (Nat.le_of_ble_eq_true rfl) (isOne_0 hRr y2.symm yn hp hw (by unfold zV; omega)) ?_
                refine z_if_eqT rfl (by decide) (by decide) ?_
                refine z_pushI (z := (-1)) rfl rfl ?_
                refine z_iret rfl rfl ?_
                refine ⟨?_, ?_⟩
                · first | exact congrArg (fun v => some (zi v)) (d9 p (by omega) (by omega)).1.symm | (exfalso; omega)
                · exact hr
              · refine z_pushI (z := 1) rfl rfl ?_
                refine z_goto rfl ?_
                refine z_bret rfl rfl (by decide) ?_
                show zW _ _ _ _ _ _ _ _ _ _
                refine z_if_eqF rfl (by decide) (by decide) ?_
                refine z_aload rfl rfl ?_
                refine z_iload rfl rfl ?_
                refine z_callVi (As := [_]) (le := [some _, some _]) rfl rfl rfl (Nat.le_of_ble_eq_true rfl) (Nat.le_of_ble_eq_true rfl) rfl ?_
                refine z_iload rfl rfl ?_
                refine z_pushI (z := 0) rfl rfl ?_
                refine z_aload rfl rfl ?_
                refine z_getI (v := J 50 1) rfl rfl (rfl) ?_
                refine z_pushI (z := 1) rfl rfl ?_
                refine z_isub (e := (J 50 1) - 1) rfl rfl ?_
                refine z_callSi (As := [_, _, _]) (le := [some _, some _, some _]) rfl rfl (Nat.le_of_ble_eq_true rfl) (Nat.le_of_ble_eq_true rfl) rfl ?_
                refine z_iload rfl rfl ?_
                refine z_iload rfl rfl ?_
                refine z_icmp_lt rfl (by omega) (by decide) (fun h11 => ?_) (fun h11 => ?_)
                · refine z_pushI (z := 0) rfl rfl ?_
                  refine z_bret rfl rfl (by decide) ?_
                  show zW _ _ _ _ _ _ _ _ _ _
                  refine z_bret rfl rfl (by decide) ?_
                  show zW _ _ _ _ _ _ _ _ _ _
                  refine z_if_neF rfl (by decide) (by decide) ?_
                  refine z_pushI (z := (-1)) rfl rfl ?_
                  refine z_goto rfl ?_
                  refine z_iret rfl rfl ?_
                  refine ⟨?_, ?_⟩
                  · first | exact congrArg (fun v => some (zi v)) (d9 p (by omega) (by omega)).1.symm | (exfalso; omega)
                  · exact hr
                · refine z_iload rfl rfl ?_
                  refine z_iload rfl rfl ?_
                  refine z_icmp_gt rfl (by omega) (by omega) (fun h12 => ?_) (fun h12 => ?_)
                  · refine z_pushI (z := 0) rfl rfl ?_
                    refine z_bret rfl rfl (by decide) ?_
                    show zW _ _ _ _ _ _ _ _ _ _
                    refine z_bret rfl rfl (by decide) ?_
                    show zW _ _ _ _ _ _ _ _ _ _
                    refine z_if_neF rfl (by decide) (by decide) ?_
                    refine z_pushI (z := (-1)) rfl rfl ?_
                    refine z_goto rfl ?_
                    refine z_iret rfl rfl ?_
                    refine ⟨?_, ?_⟩
                    · first | exact congrArg (fun v => some (zi v)) (d9 p (by omega) (by omega)).1.symm | (exfalso; omega)
                    · exact hr
                  · refine z_pushI (z := 1) rfl rfl ?_
                    refine z_goto rfl ?_
                    refine z_bret rfl rfl (by decide) ?_
                    show zW _ _ _ _ _ _ _ _ _ _
                    refine z_bret rfl rfl (by decide) ?_
                    show zW _ _ _ _ _ _ _ _ _ _
                    refine z_if_neT rfl (by decide) (by decide) ?_
                    refine z_iload rfl rfl ?_
                    refine z_pushI (z := 14) rfl rfl ?_
                    refine z_icmp_ne rfl (by omega) (by decide) (fun h13 => ?_) (fun h13 => ?_)
                    · refine z_aload rfl rfl ?_
                      refine z_getR (r := 76) rfl rfl (hRr _ rm_50_43 (by decide)) ?_
                      refine z_iload rfl rfl ?_
                      refine z_iald (v := J 76 p) rfl rfl (by decide) (by omega) (rfl) ?_
                      refine z_iret rfl rfl ?_
                      refine ⟨?_, ?_⟩
                      · first | exact congrArg (fun v => some (zi v)) (d9 p (by omega) (by omega)).1.symm | (exfalso; omega)
                      · exact hr
                    · refine z_aload rfl rfl ?_
                      refine z_getR (r := 75) rfl rfl (hRr _ rm_50_42 (by decide)) ?_
                      refine z_iload rfl rfl ?_
                      refine z_iald (v := J 75 p) rfl rfl (by decide) (by omega) (rfl) ?_
                      refine z_goto rfl ?_
                      refine z_iret rfl rfl ?_
                      refine ⟨?_, ?_⟩
                      · first | exact congrArg (fun v => some (zi v)) (d9 p (by omega) (by omega)).1.symm | (exfalso; omega)
                      · exact hr
theorem st_of_1 {X : Nat × (Nat → Int32)} {d : Nat} {J M : zA} {R : zR} {p w : Int} (hr : Rel X J M R) (hp : -2147483648 ≤ p ∧ p < 2147483648) (hw : -2147483648 ≤ w ∧ w < 2147483648) (hs : ¬ (w = 14 ∨ w = 15)) (hV : zV (J 8 2) p w) : zW X (d + 20) 105 0 (gEn 105 [(.ref 0), (zi p), (zi w)]) [] J M R (stP X (d + 20) 163 [(zi p), (zi w)]) := by
  have hr0 := hr
  obtain ⟨hR, hG, hY, hD, hP, hC, hAc, hS, hTp, hX, hW⟩ := hr0
  have hRr : zRoR R := zRoR_of hR
  have hY0 := hY
  obtain ⟨y1, y2, y3⟩ := hY0
  have yn := zNn y3
  have hD0 := hD
  obtain ⟨⟨d1, d2, d3, d4, d5, d6⟩, d7, d8, d9, d10, d11⟩ := hD0
  show zW _ _ _ _ [some (.ref 0), some (zi p), some (zi w)] _ _ _ _ _
  refine z_iload rfl rfl ?_
  refine z_pushI (z := 14) rfl rfl ?_
  refine z_icmp_eq rfl (by omega) (by decide) (fun h1 => ?_) (fun h1 => ?_)
  · refine z_aload rfl rfl ?_
    refine z_getR (r := 8) rfl rfl (hR _ rm_0_1) ?_
    refine z_iload rfl rfl ?_
    refine z_callVi (As := [_]) (le := [some _, some _]) rfl rfl rfl (Nat.le_of_ble_eq_true rfl) (Nat.le_of_ble_eq_true rfl) rfl ?_
    refine z_iload rfl rfl ?_
    refine z_if_lt rfl (by omega) (fun h2 => ?_) (fun h2 => ?_)
    · refine z_pushI (z := 0) rfl rfl ?_
      refine z_bret rfl rfl (by decide) ?_
      show zW _ _ _ _ _ _ _ _ _ _
      refine z_if_neF rfl (by decide) (by decide) ?_
      refine z_pushI (z := (-1)) rfl rfl ?_
      refine z_iret rfl rfl ?_
      refine ⟨_, rfl, ?_⟩
      show zW _ _ _ _ [some (.ref 50), some (zi p), some (zi w)] _ _ _ _ _
      refine z_iload rfl rfl ?_
      refine z_pushI (z := 14) rfl rfl ?_
      refine z_pushI (z := 15) rfl rfl ?_
      refine z_callSi (As := [_, _, _]) (le := [some _, some _, some _]) rfl rfl (Nat.le_of_ble_eq_true rfl) (Nat.le_of_ble_eq_true rfl) rfl ?_
      refine z_iload rfl rfl ?_
      refine z_iload rfl rfl ?_
      refine z_icmp_lt rfl (by omega) (by decide) (fun h3 => ?_) (fun h3 => ?_)
      · refine z_pushI (z := 0) rfl rfl ?_
        refine z_bret rfl rfl (by decide) ?_
        show zW _ _ _ _ _ _ _ _ _ _
        refine z_if_eqT rfl (by decide) (by decide) ?_
        refine z_aload rfl rfl ?_
        refine z_iload rfl rfl ?_
        refine z_iload rfl rfl ?_
        refine z_callVP (As := [_, _]) (v := 1) rfl rfl rfl (Nat.le_of_ble_eq_true rfl) (Nat.le_of_ble_eq_true rfl) (isOne_1 hRr y2.symm yn hp hw hV) ?_
        refine z_if_eqF rfl (by decide) (by decide) ?_
        refine z_aload rfl rfl ?_
        refine z_iload rfl rfl ?_
        refine z_iload rfl rfl ?_
        refine z_callVP (As := [_, _]) (v := (cN J) p w) rfl rfl rfl (Nat.le_of_ble_eq_true rfl) (Nat.le_of_ble_eq_true rfl) (valueAt_s hRr y1.symm y2.symm y3 hp hw hV) ?_
        refine z_goto rfl ?_
        refine z_iret rfl rfl ?_
        refine ⟨?_, ?_⟩
        · first | rfl | exact congrArg (fun v => some (zi v)) (by omega) | (exfalso; omega)
        · exact hr
      · refine z_iload rfl rfl ?_
        refine z_iload rfl rfl ?_
        refine z_icmp_gt rfl (by omega) (by decide) (fun h4 => ?_) (fun h4 => ?_)
        · refine z_pushI (z := 0) rfl rfl ?_
          refine z_bret rfl rfl (by decide) ?_
          show zW _ _ _ _ _ _ _ _ _ _
          refine z_if_eqT rfl (by decide) (by decide) ?_
          refine z_aload rfl rfl ?_
          refine z_iload rfl rfl ?_
          refine z_iload rfl rfl ?_
          refine z_callVP (As := [_, _]) (v := 1) rfl rfl rfl (Nat.le_of_ble_eq_true rfl) (Nat.le_of_ble_eq_true rfl) (isOne_1 hRr y2.symm yn hp hw hV) ?_
          refine z_if_eqF rfl (by decide) (by decide) ?_
          refine z_aload rfl rfl ?_
          refine z_iload rfl rfl ?_
          refine z_iload rfl rfl ?_
          refine z_callVP (As := [_, _]) (v := (cN J) p w) rfl rfl rfl (Nat.le_of_ble_eq_true rfl) (Nat.le_of_ble_eq_true rfl) (valueAt_s hRr y1.symm y2.symm y3 hp hw hV) ?_
          refine z_goto rfl ?_
          refine z_iret rfl rfl ?_
          refine ⟨?_, ?_⟩
          · first | rfl | exact congrArg (fun v => some (zi v)) (by omega) | (exfalso; omega)
          · exact hr
        · refine z_pushI (z := 1) rfl rfl ?_
          refine z_goto rfl ?_
          refine z_bret rfl rfl (by decide) ?_
          show zW _ _ _ _ _ _ _ _ _ _
          refine z_if_eqF rfl (by decide) (by decide) ?_
          refine z_aload rfl rfl ?_
          refine z_iload rfl rfl ?_
          refine z_callVi (As := [_]) (le := [some _, some _]) rfl rfl rfl (Nat.le_of_ble_eq_true rfl) (Nat.le_of_ble_eq_true rfl) rfl ?_
          refine z_iload rfl rfl ?_
          refine z_pushI (z := 0) rfl rfl ?_
          refine z_aload rfl rfl ?_
          refine z_getI (v := J 50 1) rfl rfl (rfl) ?_
          refine z_pushI (z := 1) rfl rfl ?_
          refine z_isub (e := (J 50 1) - 1) rfl rfl ?_
          refine z_callSi (As := [_, _, _]) (le := [some _, some _, some _]) rfl rfl (Nat.le_of_ble_eq_true rfl) (Nat.le_of_ble_eq_true rfl) rfl ?_
          refine z_iload rfl rfl ?_
          refine z_iload rfl rfl ?_
          refine z_icmp_lt rfl (by omega) (by decide) (fun h5 => ?_) (fun h5 => ?_)
          · refine z_pushI (z := 0) rfl rfl ?_
            refine z_bret rfl rfl (by decide) ?_
            show zW _ _ _ _ _ _ _ _ _ _
            refine z_bret rfl rfl (by decide) ?_
            show zW _ _ _ _ _ _ _ _ _ _
            refine z_if_neF rfl (by decide) (by decide) ?_
            refine z_pushI (z := (-1)) rfl rfl ?_
            refine z_goto rfl ?_
            refine z_iret rfl rfl ?_
            refine ⟨?_, ?_⟩
            · first | rfl | exact congrArg (fun v => some (zi v)) (by omega) | (exfalso; omega)
            · exact hr
          · refine z_iload rfl rfl ?_
            refine z_iload rfl rfl ?_
            refine z_icmp_gt rfl (by omega) (by omega) (fun h6 => ?_) (fun h6 => ?_)
            · refine z_pushI (z := 0) rfl rfl ?_
              refine z_bret rfl rfl (by decide) ?_
              show zW _ _ _ _ _ _ _ _ _ _
              refine z_bret rfl rfl (by decide) ?_
              show zW _ _ _ _ _ _ _ _ _ _
              refine z_if_neF rfl (by decide) (by decide) ?_
              refine z_pushI (z := (-1)) rfl rfl ?_
              refine z_goto rfl ?_
              refine z_iret rfl rfl ?_
              refine ⟨?_, ?_⟩
              · first | rfl | exact congrArg (fun v => some (zi v)) (by omega) | (exfalso; omega)
              · exact hr
            · refine z_pushI (z := 1) rfl rfl ?_
              refine z_goto rfl ?_
              refine z_bret rfl rfl (by decide) ?_
              show zW _ _ _ _ _ _ _ _ _ _
              refine z_bret rfl rfl (by decide) ?_
              show zW _ _ _ _ _ _ _ _ _ _
              refine z_if_neT rfl (by decide) (by decide) ?_
              refine z_iload rfl rfl ?_
              refine z_pushI (z := 14) rfl rfl ?_
              refine z_icmp_ne rfl (by omega) (by decide) (fun h7 => ?_) (fun h7 => ?_)
              · refine z_aload rfl rfl ?_
                refine z_getR (r := 76) rfl rfl (hRr _ rm_50_43 (by decide)) ?_
                refine z_iload rfl rfl ?_
                refine z_iald (v := J 76 p) rfl rfl (by decide) (by omega) (rfl) ?_
                refine z_iret rfl rfl ?_
                refine ⟨?_, ?_⟩
                · first | rfl | exact congrArg (fun v => some (zi v)) (by omega) | (exfalso; omega)
                · exact hr
              · refine z_aload rfl rfl ?_
                refine z_getR (r := 75) rfl rfl (hRr _ rm_50_42 (by decide)) ?_
                refine z_iload rfl rfl ?_
                refine z_iald (v := J 75 p) rfl rfl (by decide) (by omega) (rfl) ?_
                refine z_goto rfl ?_
                refine z_iret rfl rfl ?_
                refine ⟨?_, ?_⟩
                · first | rfl | exact congrArg (fun v => some (zi v)) (by omega) | (exfalso; omega)
                · exact hr
    · refine z_iload rfl rfl ?_
      refine z_aload rfl rfl ?_
      refine z_getI (v := J 8 2) rfl rfl (rfl) ?_
      refine z_icmp_ge rfl (by omega) (by omega) (fun h3 => ?_) (fun h3 => ?_)
      · refine z_pushI (z := 0) rfl rfl ?_
        refine z_bret rfl rfl (by decide) ?_
        show zW _ _ _ _ _ _ _ _ _ _
        refine z_if_neF rfl (by decide) (by decide) ?_
        refine z_pushI (z := (-1)) rfl rfl ?_
        refine z_iret rfl rfl ?_
        refine ⟨_, rfl, ?_⟩
        show zW _ _ _ _ [some (.ref 50), some (zi p), some (zi w)] _ _ _ _ _
        refine z_iload rfl rfl ?_
        refine z_pushI (z := 14) rfl rfl ?_
        refine z_pushI (z := 15) rfl rfl ?_
        refine z_callSi (As := [_, _, _]) (le := [some _, some _, some _]) rfl rfl (Nat.le_of_ble_eq_true rfl) (Nat.le_of_ble_eq_true rfl) rfl ?_
        refine z_iload rfl rfl ?_
        refine z_iload rfl rfl ?_
        refine z_icmp_lt rfl (by omega) (by decide) (fun h4 => ?_) (fun h4 => ?_)
        · refine z_pushI (z := 0) rfl rfl ?_
          refine z_bret rfl rfl (by decide) ?_
          show zW _ _ _ _ _ _ _ _ _ _
          refine z_if_eqT rfl (by decide) (by decide) ?_
          refine z_aload rfl rfl ?_
          refine z_iload rfl rfl ?_
          refine z_iload rfl rfl ?_
          refine z_callVP (As := [_, _]) (v := 1) rfl rfl rfl (Nat.le_of_ble_eq_true rfl) (Nat.le_of_ble_eq_true rfl) (isOne_1 hRr y2.symm yn hp hw hV) ?_
          refine z_if_eqF rfl (by decide) (by decide) ?_
          refine z_aload rfl rfl ?_
          refine z_iload rfl rfl ?_
          refine z_iload rfl rfl ?_
          refine z_callVP (As := [_, _]) (v := (cN J) p w) rfl rfl rfl (Nat.le_of_ble_eq_true rfl) (Nat.le_of_ble_eq_true rfl) (valueAt_s hRr y1.symm y2.symm y3 hp hw hV) ?_
          refine z_goto rfl ?_
          refine z_iret rfl rfl ?_
          refine ⟨?_, ?_⟩
          · first | rfl | exact congrArg (fun v => some (zi v)) (by omega) | (exfalso; omega)
          · exact hr
        · refine z_iload rfl rfl ?_
          refine z_iload rfl rfl ?_
          refine z_icmp_gt rfl (by omega) (by decide) (fun h5 => ?_) (fun h5 => ?_)
          · refine z_pushI (z := 0) rfl rfl ?_
            refine z_bret rfl rfl (by decide) ?_
            show zW _ _ _ _ _ _ _ _ _ _
            refine z_if_eqT rfl (by decide) (by decide) ?_
            refine z_aload rfl rfl ?_
            refine z_iload rfl rfl ?_
            refine z_iload rfl rfl ?_
            refine z_callVP (As := [_, _]) (v := 1) rfl rfl rfl (Nat.le_of_ble_eq_true rfl) (Nat.le_of_ble_eq_true rfl) (isOne_1 hRr y2.symm yn hp hw hV) ?_
            refine z_if_eqF rfl (by decide) (by decide) ?_
            refine z_aload rfl rfl ?_
            refine z_iload rfl rfl ?_
            refine z_iload rfl rfl ?_
            refine z_callVP (As := [_, _]) (v := (cN J) p w) rfl rfl rfl (Nat.le_of_ble_eq_true rfl) (Nat.le_of_ble_eq_true rfl) (valueAt_s hRr y1.symm y2.symm y3 hp hw hV) ?_
            refine z_goto rfl ?_
            refine z_iret rfl rfl ?_
            refine ⟨?_, ?_⟩
            · first | rfl | exact congrArg (fun v => some (zi v)) (by omega) | (exfalso; omega)
            · exact hr
          · refine z_pushI (z := 1) rfl rfl ?_
            refine z_goto rfl ?_
            refine z_bret rfl rfl (by decide) ?_
            show zW _ _ _ _ _ _ _ _ _ _
            refine z_if_eqF rfl (by decide) (by decide) ?_
            refine z_aload rfl rfl ?_
            refine z_iload rfl rfl ?_
            refine z_callVi (As := [_]) (le := [some _, some _]) rfl rfl rfl (Nat.le_of_ble_eq_true rfl) (Nat.le_of_ble_eq_true rfl) rfl ?_
            refine z_iload rfl rfl ?_
            refine z_pushI (z := 0) rfl rfl ?_
            refine z_aload rfl rfl ?_
            refine z_getI (v := J 50 1) rfl rfl (rfl) ?_
            refine z_pushI (z := 1) rfl rfl ?_
            refine z_isub (e := (J 50 1) - 1) rfl rfl ?_
            refine z_callSi (As := [_, _, _]) (le := [some _, some _, some _]) rfl rfl (Nat.le_of_ble_eq_true rfl) (Nat.le_of_ble_eq_true rfl) rfl ?_
            refine z_iload rfl rfl ?_
            refine z_iload rfl rfl ?_
            refine z_icmp_lt rfl (by omega) (by decide) (fun h6 => ?_) (fun h6 => ?_)
            · refine z_pushI (z := 0) rfl rfl ?_
              refine z_bret rfl rfl (by decide) ?_
              show zW _ _ _ _ _ _ _ _ _ _
              refine z_bret rfl rfl (by decide) ?_
              show zW _ _ _ _ _ _ _ _ _ _
              refine z_if_neF rfl (by decide) (by decide) ?_
              refine z_pushI (z := (-1)) rfl rfl ?_
              refine z_goto rfl ?_
              refine z_iret rfl rfl ?_
              refine ⟨?_, ?_⟩
              · first | rfl | exact congrArg (fun v => some (zi v)) (by omega) | (exfalso; omega)
              · exact hr
            · refine z_iload rfl rfl ?_
              refine z_iload rfl rfl ?_
              refine z_icmp_gt rfl (by omega) (by omega) (fun h7 => ?_) (fun h7 => ?_)
              · refine z_pushI (z := 0) rfl rfl ?_
                refine z_bret rfl rfl (by decide) ?_
                show zW _ _ _ _ _ _ _ _ _ _
                refine z_bret rfl rfl (by decide) ?_
                show zW _ _ _ _ _ _ _ _ _ _
                refine z_if_neF rfl (by decide) (by decide) ?_
                refine z_pushI (z := (-1)) rfl rfl ?_
                refine z_goto rfl ?_
                refine z_iret rfl rfl ?_
                refine ⟨?_, ?_⟩
                · first | rfl | exact congrArg (fun v => some (zi v)) (by omega) | (exfalso; omega)
                · exact hr
              · refine z_pushI (z := 1) rfl rfl ?_
                refine z_goto rfl ?_
                refine z_bret rfl rfl (by decide) ?_
                show zW _ _ _ _ _ _ _ _ _ _
                refine z_bret rfl rfl (by decide) ?_
                show zW _ _ _ _ _ _ _ _ _ _
                refine z_if_neT rfl (by decide) (by decide) ?_
                refine z_iload rfl rfl ?_
                refine z_pushI (z := 14) rfl rfl ?_
                refine z_icmp_ne rfl (by omega) (by decide) (fun h8 => ?_) (fun h8 => ?_)
                · refine z_aload rfl rfl ?_
                  refine z_getR (r := 76) rfl rfl (hRr _ rm_50_43 (by decide)) ?_
                  refine z_iload rfl rfl ?_
                  refine z_iald (v := J 76 p) rfl rfl (by decide) (by omega) (rfl) ?_
                  refine z_iret rfl rfl ?_
                  refine ⟨?_, ?_⟩
                  · first | rfl | exact congrArg (fun v => some (zi v)) (by omega) | (exfalso; omega)
                  · exact hr
                · refine z_aload rfl rfl ?_
                  refine z_getR (r := 75) rfl rfl (hRr _ rm_50_42 (by decide)) ?_
                  refine z_iload rfl rfl ?_
                  refine z_iald (v := J 75 p) rfl rfl (by decide) (by omega) (rfl) ?_
                  refine z_goto rfl ?_
                  refine z_iret rfl rfl ?_
                  refine ⟨?_, ?_⟩
                  · first | rfl | exact congrArg (fun v => some (zi v)) (by omega) | (exfalso; omega)
                  · exact hr
      · refine z_pushI (z := 1) rfl rfl ?_
        refine z_goto rfl ?_
        refine z_bret rfl rfl (by decide) ?_
        show zW _ _ _ _ _ _ _ _ _ _
        refine z_if_neT rfl (by decide) (by decide) ?_
        refine z_iload rfl rfl ?_
        refine z_pushI (z := 14) rfl rfl ?_
        refine z_icmp_ne rfl (by omega) (by decide) (fun h4 => ?_) (fun h4 => ?_)
        · refine z_aload rfl rfl ?_
          refine z_getR (r := 23) rfl rfl (hR _ rm_0_6) ?_
          refine z_getR (r := 25) rfl rfl (hR _ rm_23_2) ?_
          refine z_iload rfl rfl ?_
          refine z_iald (v := J 25 p) rfl rfl (by decide) (by omega) (rfl) ?_
          refine z_iret rfl rfl ?_
          refine ⟨_, rfl, ?_⟩
          show zW _ _ _ _ [some (.ref 50), some (zi p), some (zi w)] _ _ _ _ _
          refine z_iload rfl rfl ?_
          refine z_pushI (z := 14) rfl rfl ?_
          refine z_pushI (z := 15) rfl rfl ?_
          refine z_callSi (As := [_, _, _]) (le := [some _, some _, some _]) rfl rfl (Nat.le_of_ble_eq_true rfl) (Nat.le_of_ble_eq_true rfl) rfl ?_
          refine z_iload rfl rfl ?_
          refine z_iload rfl rfl ?_
          refine z_icmp_lt rfl (by omega) (by decide) (fun h5 => ?_) (fun h5 => ?_)
          · refine z_pushI (z := 0) rfl rfl ?_
            refine z_bret rfl rfl (by decide) ?_
            show zW _ _ _ _ _ _ _ _ _ _
            refine z_if_eqT rfl (by decide) (by decide) ?_
            refine z_aload rfl rfl ?_
            refine z_iload rfl rfl ?_
            refine z_iload rfl rfl ?_
            refine z_callVP (As := [_, _]) (v := 1) rfl rfl rfl (Nat.le_of_ble_eq_true rfl) (Nat.le_of_ble_eq_true rfl) (isOne_1 hRr y2.symm yn hp hw hV) ?_
            refine z_if_eqF rfl (by decide) (by decide) ?_
            refine z_aload rfl rfl ?_
            refine z_iload rfl rfl ?_
            refine z_iload rfl rfl ?_
            refine z_callVP (As := [_, _]) (v := (cN J) p w) rfl rfl rfl (Nat.le_of_ble_eq_true rfl) (Nat.le_of_ble_eq_true rfl) (valueAt_s hRr y1.symm y2.symm y3 hp hw hV) ?_
            refine z_goto rfl ?_
            refine z_iret rfl rfl ?_
            refine ⟨?_, ?_⟩
            · first | rfl | exact congrArg (fun v => some (zi v)) (by omega) | (exfalso; omega)
            · exact hr
          · refine z_iload rfl rfl ?_
            refine z_iload rfl rfl ?_
            refine z_icmp_gt rfl (by omega) (by decide) (fun h6 => ?_) (fun h6 => ?_)
            · refine z_pushI (z := 0) rfl rfl ?_
              refine z_bret rfl rfl (by decide) ?_
              show zW _ _ _ _ _ _ _ _ _ _
              refine z_if_eqT rfl (by decide) (by decide) ?_
              refine z_aload rfl rfl ?_
              refine z_iload rfl rfl ?_
              refine z_iload rfl rfl ?_
              refine z_callVP (As := [_, _]) (v := 1) rfl rfl rfl (Nat.le_of_ble_eq_true rfl) (Nat.le_of_ble_eq_true rfl) (isOne_1 hRr y2.symm yn hp hw hV) ?_
              refine z_if_eqF rfl (by decide) (by decide) ?_
              refine z_aload rfl rfl ?_
              refine z_iload rfl rfl ?_
              refine z_iload rfl rfl ?_
              refine z_callVP (As := [_, _]) (v := (cN J) p w) rfl rfl rfl (Nat.le_of_ble_eq_true rfl) (Nat.le_of_ble_eq_true rfl) (valueAt_s hRr y1.symm y2.symm y3 hp hw hV) ?_
              refine z_goto rfl ?_
              refine z_iret rfl rfl ?_
              refine ⟨?_, ?_⟩
              · first | rfl | exact congrArg (fun v => some (zi v)) (by omega) | (exfalso; omega)
              · exact hr
            · refine z_pushI (z := 1) rfl rfl ?_
              refine z_goto rfl ?_
              refine z_bret rfl rfl (by decide) ?_
              show zW _ _ _ _ _ _ _ _ _ _
              refine z_if_eqF rfl (by decide) (by decide) ?_
              refine z_aload rfl rfl ?_
              refine z_iload rfl rfl ?_
              refine z_callVi (As := [_]) (le := [some _, some _]) rfl rfl rfl (Nat.le_of_ble_eq_true rfl) (Nat.le_of_ble_eq_true rfl) rfl ?_
              refine z_iload rfl rfl ?_
              refine z_pushI (z := 0) rfl rfl ?_
              refine z_aload rfl rfl ?_
              refine z_getI (v := J 50 1) rfl rfl (rfl) ?_
              refine z_pushI (z := 1) rfl rfl ?_
              refine z_isub (e := (J 50 1) - 1) rfl rfl ?_
              refine z_callSi (As := [_, _, _]) (le := [some _, some _, some _]) rfl rfl (Nat.le_of_ble_eq_true rfl) (Nat.le_of_ble_eq_true rfl) rfl ?_
              refine z_iload rfl rfl ?_
              refine z_iload rfl rfl ?_
              refine z_icmp_lt rfl (by omega) (by decide) (fun h7 => ?_) (fun h7 => ?_)
              · refine z_pushI (z := 0) rfl rfl ?_
                refine z_bret rfl rfl (by decide) ?_
                show zW _ _ _ _ _ _ _ _ _ _
                refine z_bret rfl rfl (by decide) ?_
                show zW _ _ _ _ _ _ _ _ _ _
                refine z_if_neF rfl (by decide) (by decide) ?_
                refine z_pushI (z := (-1)) rfl rfl ?_
                refine z_goto rfl ?_
                refine z_iret rfl rfl ?_
                refine ⟨?_, ?_⟩
                · first | rfl | exact congrArg (fun v => some (zi v)) (by omega) | (exfalso; omega)
                · exact hr
              · refine z_iload rfl rfl ?_
                refine z_iload rfl rfl ?_
                refine z_icmp_gt rfl (by omega) (by omega) (fun h8 => ?_) (fun h8 => ?_)
                · refine z_pushI (z := 0) rfl rfl ?_
                  refine z_bret rfl rfl (by decide) ?_
                  show zW _ _ _ _ _ _ _ _ _ _
                  refine z_bret rfl rfl (by decide) ?_
                  show zW _ _ _ _ _ _ _ _ _ _
                  refine z_if_neF rfl (by decide) (by decide) ?_
                  refine z_pushI (z := (-1)) rfl rfl ?_
                  refine z_goto rfl ?_
                  refine z_iret rfl rfl ?_
                  refine ⟨?_, ?_⟩
                  · first | rfl | exact congrArg (fun v => some (zi v)) (by omega) | (exfalso; omega)
                  · exact hr
                · refine z_pushI (z := 1) rfl rfl ?_
                  refine z_goto rfl ?_
                  refine z_bret rfl rfl (by decide) ?_
                  show zW _ _ _ _ _ _ _ _ _ _
                  refine z_bret rfl rfl (by decide) ?_
                  show zW _ _ _ _ _ _ _ _ _ _
                  refine z_if_neT rfl (by decide) (by decide) ?_
                  refine z_iload rfl rfl ?_
                  refine z_pushI (z := 14) rfl rfl ?_
                  refine z_icmp_ne rfl (by omega) (by decide) (fun h9 => ?_) (fun h9 => ?_)
                  · refine z_aload rfl rfl ?_
                    refine z_getR (r := 76) rfl rfl (hRr _ rm_50_43 (by decide)) ?_
                    refine z_iload rfl rfl ?_
                    refine z_iald (v := J 76 p) rfl rfl (by decide) (by omega) (rfl) ?_
                    refine z_iret rfl rfl ?_
                    refine ⟨?_, ?_⟩
                    · first | rfl | exact congrArg (fun v => some (zi v)) (by omega) | (exfalso; omega)
                    · exact hr
                  · refine z_aload rfl rfl ?_
                    refine z_getR (r := 75) rfl rfl (hRr _ rm_50_42 (by decide)) ?_
                    refine z_iload rfl rfl ?_
                    refine z_iald (v := J 75 p) rfl rfl (by decide) (by omega) (rfl) ?_
                    refine z_goto rfl ?_
                    refine z_iret rfl rfl ?_
                    refine ⟨?_, ?_⟩
                    · first | rfl | exact congrArg (fun v => some (zi v)) (by omega) | (exfalso; omega)
                    · exact hr
        · refine z_aload rfl rfl ?_
          refine z_getR (r := 23) rfl rfl (hR _ rm_0_6) ?_
          refine z_getR (r := 24) rfl rfl (hR _ rm_23_1) ?_
          refine z_iload rfl rfl ?_
          refine z_iald (v := J 24 p) rfl rfl (by decide) (by omega) (rfl) ?_
          refine z_goto rfl ?_
          refine z_iret rfl rfl ?_
          refine ⟨_, rfl, ?_⟩
          show zW _ _ _ _ [some (.ref 50), some (zi p), some (zi w)] _ _ _ _ _
          refine z_iload rfl rfl ?_
          refine z_pushI (z := 14) rfl rfl ?_
          refine z_pushI (z := 15) rfl rfl ?_
          refine z_callSi (As := [_, _, _]) (le := [some _, some _, some _]) rfl rfl (Nat.le_of_ble_eq_true rfl) (Nat.le_of_ble_eq_true rfl) rfl ?_
          refine z_iload rfl rfl ?_
          refine z_iload rfl rfl ?_
          refine z_icmp_lt rfl (by omega) (by decide) (fun h5 => ?_) (fun h5 => ?_)
          · refine z_pushI (z := 0) rfl rfl ?_
            refine z_bret rfl rfl (by decide) ?_
            show zW _ _ _ _ _ _ _ _ _ _
            refine z_if_eqT rfl (by decide) (by decide) ?_
            refine z_aload rfl rfl ?_
            refine z_iload rfl rfl ?_
            refine z_iload rfl rfl ?_
            refine z_callVP (As := [_, _]) (v := 1) rfl rfl rfl (Nat.le_of_ble_eq_true rfl) (Nat.le_of_ble_eq_true rfl) (isOne_1 hRr y2.symm yn hp hw hV) ?_
            refine z_if_eqF rfl (by decide) (by decide) ?_
            refine z_aload rfl rfl ?_
            refine z_iload rfl rfl ?_
            refine z_iload rfl rfl ?_
            refine z_callVP (As := [_, _]) (v := (cN J) p w) rfl rfl rfl (Nat.le_of_ble_eq_true rfl) (Nat.le_of_ble_eq_true rfl) (valueAt_s hRr y1.symm y2.symm y3 hp hw hV) ?_
            refine z_goto rfl ?_
            refine z_iret rfl rfl ?_
            refine ⟨?_, ?_⟩
            · first | rfl | exact congrArg (fun v => some (zi v)) (by omega) | (exfalso; omega)
            · exact hr
          · refine z_iload rfl rfl ?_
            refine z_iload rfl rfl ?_
            refine z_icmp_gt rfl (by omega) (by decide) (fun h6 => ?_) (fun h6 => ?_)
            · refine z_pushI (z := 0) rfl rfl ?_
              refine z_bret rfl rfl (by decide) ?_
              show zW _ _ _ _ _ _ _ _ _ _
              refine z_if_eqT rfl (by decide) (by decide) ?_
              refine z_aload rfl rfl ?_
              refine z_iload rfl rfl ?_
              refine z_iload rfl rfl ?_
              refine z_callVP (As := [_, _]) (v := 1) rfl rfl rfl (Nat.le_of_ble_eq_true rfl) (Nat.le_of_ble_eq_true rfl) (isOne_1 hRr y2.symm yn hp hw hV) ?_
              refine z_if_eqF rfl (by decide) (by decide) ?_
              refine z_aload rfl rfl ?_
              refine z_iload rfl rfl ?_
              refine z_iload rfl rfl ?_
              refine z_callVP (As := [_, _]) (v := (cN J) p w) rfl rfl rfl (Nat.le_of_ble_eq_true rfl) (Nat.le_of_ble_eq_true rfl) (valueAt_s hRr y1.symm y2.symm y3 hp hw hV) ?_
              refine z_goto rfl ?_
              refine z_iret rfl rfl ?_
              refine ⟨?_, ?_⟩
              · first | rfl | exact congrArg (fun v => some (zi v)) (by omega) | (exfalso; omega)
              · exact hr
            · refine z_pushI (z := 1) rfl rfl ?_
              refine z_goto rfl ?_
              refine z_bret rfl rfl (by decide) ?_
              show zW _ _ _ _ _ _ _ _ _ _
              refine z_if_eqF rfl (by decide) (by decide) ?_
              refine z_aload rfl rfl ?_
              refine z_iload rfl rfl ?_
              refine z_callVi (As := [_]) (le := [some _, some _]) rfl rfl rfl (Nat.le_of_ble_eq_true rfl) (Nat.le_of_ble_eq_true rfl) rfl ?_
              refine z_iload rfl rfl ?_
              refine z_pushI (z := 0) rfl rfl ?_
              refine z_aload rfl rfl ?_
              refine z_getI (v := J 50 1) rfl rfl (rfl) ?_
              refine z_pushI (z := 1) rfl rfl ?_
              refine z_isub (e := (J 50 1) - 1) rfl rfl ?_
              refine z_callSi (As := [_, _, _]) (le := [some _, some _, some _]) rfl rfl (Nat.le_of_ble_eq_true rfl) (Nat.le_of_ble_eq_true rfl) rfl ?_
              refine z_iload rfl rfl ?_
              refine z_iload rfl rfl ?_
              refine z_icmp_lt rfl (by omega) (by decide) (fun h7 => ?_) (fun h7 => ?_)
              · refine z_pushI (z := 0) rfl rfl ?_
                refine z_bret rfl rfl (by decide) ?_
                show zW _ _ _ _ _ _ _ _ _ _
                refine z_bret rfl rfl (by decide) ?_
                show zW _ _ _ _ _ _ _ _ _ _
                refine z_if_neF rfl (by decide) (by decide) ?_
                refine z_pushI (z := (-1)) rfl rfl ?_
                refine z_goto rfl ?_
                refine z_iret rfl rfl ?_
                refine ⟨?_, ?_⟩
                · first | rfl | exact congrArg (fun v => some (zi v)) (by omega) | (exfalso; omega)
                · exact hr
              · refine z_iload rfl rfl ?_
                refine z_iload rfl rfl ?_
                refine z_icmp_gt rfl (by omega) (by omega) (fun h8 => ?_) (fun h8 => ?_)
                · refine z_pushI (z := 0) rfl rfl ?_
                  refine z_bret rfl rfl (by decide) ?_
                  show zW _ _ _ _ _ _ _ _ _ _
                  refine z_bret rfl rfl (by decide) ?_
                  show zW _ _ _ _ _ _ _ _ _ _
                  refine z_if_neF rfl (by decide) (by decide) ?_
                  refine z_pushI (z := (-1)) rfl rfl ?_
                  refine z_goto rfl ?_
                  refine z_iret rfl rfl ?_
                  refine ⟨?_, ?_⟩
                  · first | rfl | exact congrArg (fun v => some (zi v)) (by omega) | (exfalso; omega)
                  · exact hr
                · refine z_pushI (z := 1) rfl rfl ?_
                  refine z_goto rfl ?_
                  refine z_bret rfl rfl (by decide) ?_
                  show zW _ _ _ _ _ _ _ _ _ _
                  refine z_bret rfl rfl (by decide) ?_
                  show zW _ _ _ _ _ _ _ _ _ _
                  refine z_if_neT rfl (by decide) (by decide) ?_
                  refine z_iload rfl rfl ?_
                  refine z_pushI (z := 14) rfl rfl ?_
                  refine z_icmp_ne rfl (by omega) (by decide) (fun h9 => ?_) (fun h9 => ?_)
                  · refine z_aload rfl rfl ?_
                    refine z_getR (r := 76) rfl rfl (hRr _ rm_50_43 (by decide)) ?_
                    refine z_iload rfl rfl ?_
                    refine z_iald (v := J 76 p) rfl rfl (by decide) (by omega) (rfl) ?_
                    refine z_iret rfl rfl ?_
                    refine ⟨?_, ?_⟩
                    · first | rfl | exact congrArg (fun v => some (zi v)) (by omega) | (exfalso; omega)
                    · exact hr
                  · refine z_aload rfl rfl ?_
                    refine z_getR (r := 75) rfl rfl (hRr _ rm_50_42 (by decide)) ?_
                    refine z_iload rfl rfl ?_
                    refine z_iald (v := J 75 p) rfl rfl (by decide) (by omega) (rfl) ?_
                    refine z_goto rfl ?_
                    refine z_iret rfl rfl ?_
                    refine ⟨?_, ?_⟩
                    · first | rfl | exact congrArg (fun v => some (zi v)) (by omega) | (exfalso; omega)
                    · exact hr
  · refine z_iload rfl rfl ?_
    refine z_pushI (z := 15) rfl rfl ?_
    refine z_icmp_ne rfl (by omega) (by decide) (fun h5 => ?_) (fun h5 => ?_)
    · refine z_aload rfl rfl ?_
      refine z_getR (r := 8) rfl rfl (hR _ rm_0_1) ?_
      refine z_iload rfl rfl ?_
      refine z_iload rfl rfl ?_
      refine z_callVP (As := [_, _]) (v := 1) rfl rfl rfl (Nat.le_of_ble_eq_true rfl) (Nat.le_of_ble_eq_true rfl) (isNumber_1 hR rfl yn hp hw hV) ?_
      refine z_if_eqF rfl (by decide) (by decide) ?_
      refine z_aload rfl rfl ?_
      refine z_getR (r := 8) rfl rfl (hR _ rm_0_1) ?_
      refine z_iload rfl rfl ?_
      refine z_iload rfl rfl ?_
      refine z_callVP (As := [_, _]) (v := (cN J) p w) rfl rfl rfl (Nat.le_of_ble_eq_true rfl) (Nat.le_of_ble_eq_true rfl) (told_k hR zK_r rfl rfl y3 hp hw) ?_
      refine z_goto rfl ?_
      refine z_iret rfl rfl ?_
      refine ⟨_, rfl, ?_⟩
      show zW _ _ _ _ [some (.ref 50), some (zi p), some (zi w)] _ _ _ _ _
      refine z_iload rfl rfl ?_
      refine z_pushI (z := 14) rfl rfl ?_
      refine z_pushI (z := 15) rfl rfl ?_
      refine z_callSi (As := [_, _, _]) (le := [some _, some _, some _]) rfl rfl (Nat.le_of_ble_eq_true rfl) (Nat.le_of_ble_eq_true rfl) rfl ?_
      refine z_iload rfl rfl ?_
      refine z_iload rfl rfl ?_
      refine z_icmp_lt rfl (by omega) (by decide) (fun h6 => ?_) (fun h6 => ?_)
      · refine z_pushI (z := 0) rfl rfl ?_
        refine z_bret rfl rfl (by decide) ?_
        show zW _ _ _ _ _ _ _ _ _ _
        refine z_if_eqT rfl (by decide) (by decide) ?_
        refine z_aload rfl rfl ?_
        refine z_iload rfl rfl ?_
        refine z_iload rfl rfl ?_
        refine z_callVP (As := [_, _]) (v := 1) rfl rfl rfl (Nat.le_of_ble_eq_true rfl) (Nat.le_of_ble_eq_true rfl) (isOne_1 hRr y2.symm yn hp hw hV) ?_
        refine z_if_eqF rfl (by decide) (by decide) ?_
        refine z_aload rfl rfl ?_
        refine z_iload rfl rfl ?_
        refine z_iload rfl rfl ?_
        refine z_callVP (As := [_, _]) (v := (cN J) p w) rfl rfl rfl (Nat.le_of_ble_eq_true rfl) (Nat.le_of_ble_eq_true rfl) (valueAt_s hRr y1.symm y2.symm y3 hp hw hV) ?_
        refine z_goto rfl ?_
        refine z_iret rfl rfl ?_
        refine ⟨?_, ?_⟩
        · first | rfl | exact congrArg (fun v => some (zi v)) (by omega) | (exfalso; omega)
        · exact hr
      · refine z_iload rfl rfl ?_
        refine z_iload rfl rfl ?_
        refine z_icmp_gt rfl (by omega) (by decide) (fun h7 => ?_) (fun h7 => ?_)
        · refine z_pushI (z := 0) rfl rfl ?_
          refine z_bret rfl rfl (by decide) ?_
          show zW _ _ _ _ _ _ _ _ _ _
          refine z_if_eqT rfl (by decide) (by decide) ?_
          refine z_aload rfl rfl ?_
          refine z_iload rfl rfl ?_
          refine z_iload rfl rfl ?_
          refine z_callVP (As := [_, _]) (v := 1) rfl rfl rfl (Nat.le_of_ble_eq_true rfl) (Nat.le_of_ble_eq_true rfl) (isOne_1 hRr y2.symm yn hp hw hV) ?_
          refine z_if_eqF rfl (by decide) (by decide) ?_
          refine z_aload rfl rfl ?_
          refine z_iload rfl rfl ?_
          refine z_iload rfl rfl ?_
          refine z_callVP (As := [_, _]) (v := (cN J) p w) rfl rfl rfl (Nat.le_of_ble_eq_true rfl) (Nat.le_of_ble_eq_true rfl) (valueAt_s hRr y1.symm y2.symm y3 hp hw hV) ?_
          refine z_goto rfl ?_
          refine z_iret rfl rfl ?_
          refine ⟨?_, ?_⟩
          · first | rfl | exact congrArg (fun v => some (zi v)) (by omega) | (exfalso; omega)
          · exact hr
        · refine z_pushI (z := 1) rfl rfl ?_
          refine z_goto rfl ?_
          refine z_bret rfl rfl (by decide) ?_
          show zW _ _ _ _ _ _ _ _ _ _
          refine z_if_eqF rfl (by decide) (by decide) ?_
          refine z_aload rfl rfl ?_
          refine z_iload rfl rfl ?_
          refine z_callVi (As := [_]) (le := [some _, some _]) rfl rfl rfl (Nat.le_of_ble_eq_true rfl) (Nat.le_of_ble_eq_true rfl) rfl ?_
          refine z_iload rfl rfl ?_
          refine z_pushI (z := 0) rfl rfl ?_
          refine z_aload rfl rfl ?_
          refine z_getI (v := J 50 1) rfl rfl (rfl) ?_
          refine z_pushI (z := 1) rfl rfl ?_
          refine z_isub (e := (J 50 1) - 1) rfl rfl ?_
          refine z_callSi (As := [_, _, _]) (le := [some _, some _, some _]) rfl rfl (Nat.le_of_ble_eq_true rfl) (Nat.le_of_ble_eq_true rfl) rfl ?_
          refine z_iload rfl rfl ?_
          refine z_iload rfl rfl ?_
          refine z_icmp_lt rfl (by omega) (by decide) (fun h8 => ?_) (fun h8 => ?_)
          · refine z_pushI (z := 0) rfl rfl ?_
            refine z_bret rfl rfl (by decide) ?_
            show zW _ _ _ _ _ _ _ _ _ _
            refine z_bret rfl rfl (by decide) ?_
            show zW _ _ _ _ _ _ _ _ _ _
            refine z_if_neF rfl (by decide) (by decide) ?_
            refine z_pushI (z := (-1)) rfl rfl ?_
            refine z_goto rfl ?_
            refine z_iret rfl rfl ?_
            refine ⟨?_, ?_⟩
            · first | rfl | exact congrArg (fun v => some (zi v)) (by omega) | (exfalso; omega)
            · exact hr
          · refine z_iload rfl rfl ?_
            refine z_iload rfl rfl ?_
            refine z_icmp_gt rfl (by omega) (by omega) (fun h9 => ?_) (fun h9 => ?_)
            · refine z_pushI (z := 0) rfl rfl ?_
              refine z_bret rfl rfl (by decide) ?_
              show zW _ _ _ _ _ _ _ _ _ _
              refine z_bret rfl rfl (by decide) ?_
              show zW _ _ _ _ _ _ _ _ _ _
              refine z_if_neF rfl (by decide) (by decide) ?_
              refine z_pushI (z := (-1)) rfl rfl ?_
              refine z_goto rfl ?_
              refine z_iret rfl rfl ?_
              refine ⟨?_, ?_⟩
              · first | rfl | exact congrArg (fun v => some (zi v)) (by omega) | (exfalso; omega)
              · exact hr
            · refine z_pushI (z := 1) rfl rfl ?_
              refine z_goto rfl ?_
              refine z_bret rfl rfl (by decide) ?_
              show zW _ _ _ _ _ _ _ _ _ _
              refine z_bret rfl rfl (by decide) ?_
              show zW _ _ _ _ _ _ _ _ _ _
              refine z_if_neT rfl (by decide) (by decide) ?_
              refine z_iload rfl rfl ?_
              refine z_pushI (z := 14) rfl rfl ?_
              refine z_icmp_ne rfl (by omega) (by decide) (fun h10 => ?_) (fun h10 => ?_)
              · refine z_aload rfl rfl ?_
                refine z_getR (r := 76) rfl rfl (hRr _ rm_50_43 (by decide)) ?_
                refine z_iload rfl rfl ?_
                refine z_iald (v := J 76 p) rfl rfl (by decide) (by omega) (rfl) ?_
                refine z_iret rfl rfl ?_
                refine ⟨?_, ?_⟩
                · first | rfl | exact congrArg (fun v => some (zi v)) (by omega) | (exfalso; omega)
                · exact hr
              · refine z_aload rfl rfl ?_
                refine z_getR (r := 75) rfl rfl (hRr _ rm_50_42 (by decide)) ?_
                refine z_iload rfl rfl ?_
                refine z_iald (v := J 75 p) rfl rfl (by decide) (by omega) (rfl) ?_
                refine z_goto rfl ?_
                refine z_iret rfl rfl ?_
                refine ⟨?_, ?_⟩
                · first | rfl | exact congrArg (fun v => some (zi v)) (by omega) | (exfalso; omega)
                · exact hr
    · refine z_aload rfl rfl ?_
      refine z_getR (r := 8) rfl rfl (hR _ rm_0_1) ?_
      refine z_iload rfl rfl ?_
      refine z_callVi (As := [_]) (le := [some _, some _]) rfl rfl rfl (Nat.le_of_ble_eq_true rfl) (Nat.le_of_ble_eq_true rfl) rfl ?_
      refine z_iload rfl rfl ?_
      refine z_if_lt rfl (by omega) (fun h6 => ?_) (fun h6 => ?_)
      · refine z_pushI (z := 0) rfl rfl ?_
        refine z_bret rfl rfl (by decide) ?_
        show zW _ _ _ _ _ _ _ _ _ _
        refine z_if_neF rfl (by decide) (by decide) ?_
        refine z_pushI (z := (-1)) rfl rfl ?_
        refine z_iret rfl rfl ?_
        refine ⟨_, rfl, ?_⟩
        show zW _ _ _ _ [some (.ref 50), some (zi p), some (zi w)] _ _ _ _ _
        refine z_iload rfl rfl ?_
        refine z_pushI (z := 14) rfl rfl ?_
        refine z_pushI (z := 15) rfl rfl ?_
        refine z_callSi (As := [_, _, _]) (le := [some _, some _, some _]) rfl rfl (Nat.le_of_ble_eq_true rfl) (Nat.le_of_ble_eq_true rfl) rfl ?_
        refine z_iload rfl rfl ?_
        refine z_iload rfl rfl ?_
        refine z_icmp_lt rfl (by omega) (by decide) (fun h7 => ?_) (fun h7 => ?_)
        · refine z_pushI (z := 0) rfl rfl ?_
          refine z_bret rfl rfl (by decide) ?_
          show zW _ _ _ _ _ _ _ _ _ _
          refine z_if_eqT rfl (by decide) (by decide) ?_
          refine z_aload rfl rfl ?_
          refine z_iload rfl rfl ?_
          refine z_iload rfl rfl ?_
          refine z_callVP (As := [_, _]) (v := 1) rfl rfl rfl (Nat.le_of_ble_eq_true rfl) (Nat.le_of_ble_eq_true rfl) (isOne_1 hRr y2.symm yn hp hw hV) ?_
          refine z_if_eqF rfl (by decide) (by decide) ?_
          refine z_aload rfl rfl ?_
          refine z_iload rfl rfl ?_
          refine z_iload rfl rfl ?_
          refine z_callVP (As := [_, _]) (v := (cN J) p w) rfl rfl rfl (Nat.le_of_ble_eq_true rfl) (Nat.le_of_ble_eq_true rfl) (valueAt_s hRr y1.symm y2.symm y3 hp hw hV) ?_
          refine z_goto rfl ?_
          refine z_iret rfl rfl ?_
          refine ⟨?_, ?_⟩
          · first | rfl | exact congrArg (fun v => some (zi v)) (by omega) | (exfalso; omega)
          · exact hr
        · refine z_iload rfl rfl ?_
          refine z_iload rfl rfl ?_
          refine z_icmp_gt rfl (by omega) (by decide) (fun h8 => ?_) (fun h8 => ?_)
          · refine z_pushI (z := 0) rfl rfl ?_
            refine z_bret rfl rfl (by decide) ?_
            show zW _ _ _ _ _ _ _ _ _ _
            refine z_if_eqT rfl (by decide) (by decide) ?_
            refine z_aload rfl rfl ?_
            refine z_iload rfl rfl ?_
            refine z_iload rfl rfl ?_
            refine z_callVP (As := [_, _]) (v := 1) rfl rfl rfl (Nat.le_of_ble_eq_true rfl) (Nat.le_of_ble_eq_true rfl) (isOne_1 hRr y2.symm yn hp hw hV) ?_
            refine z_if_eqF rfl (by decide) (by decide) ?_
            refine z_aload rfl rfl ?_
            refine z_iload rfl rfl ?_
            refine z_iload rfl rfl ?_
            refine z_callVP (As := [_, _]) (v := (cN J) p w) rfl rfl rfl (Nat.le_of_ble_eq_true rfl) (Nat.le_of_ble_eq_true rfl) (valueAt_s hRr y1.symm y2.symm y3 hp hw hV) ?_
            refine z_goto rfl ?_
            refine z_iret rfl rfl ?_
            refine ⟨?_, ?_⟩
            · first | rfl | exact congrArg (fun v => some (zi v)) (by omega) | (exfalso; omega)
            · exact hr
          · refine z_pushI (z := 1) rfl rfl ?_
            refine z_goto rfl ?_
            refine z_bret rfl rfl (by decide) ?_
            show zW _ _ _ _ _ _ _ _ _ _
            refine z_if_eqF rfl (by decide) (by decide) ?_
            refine z_aload rfl rfl ?_
            refine z_iload rfl rfl ?_
            refine z_callVi (As := [_]) (le := [some _, some _]) rfl rfl rfl (Nat.le_of_ble_eq_true rfl) (Nat.le_of_ble_eq_true rfl) rfl ?_
            refine z_iload rfl rfl ?_
            refine z_pushI (z := 0) rfl rfl ?_
            refine z_aload rfl rfl ?_
            refine z_getI (v := J 50 1) rfl rfl (rfl) ?_
            refine z_pushI (z := 1) rfl rfl ?_
            refine z_isub (e := (J 50 1) - 1) rfl rfl ?_
            refine z_callSi (As := [_, _, _]) (le := [some _, some _, some _]) rfl rfl (Nat.le_of_ble_eq_true rfl) (Nat.le_of_ble_eq_true rfl) rfl ?_
            refine z_iload rfl rfl ?_
            refine z_iload rfl rfl ?_
            refine z_icmp_lt rfl (by omega) (by decide) (fun h9 => ?_) (fun h9 => ?_)
            · refine z_pushI (z := 0) rfl rfl ?_
              refine z_bret rfl rfl (by decide) ?_
              show zW _ _ _ _ _ _ _ _ _ _
              refine z_bret rfl rfl (by decide) ?_
              show zW _ _ _ _ _ _ _ _ _ _
              refine z_if_neF rfl (by decide) (by decide) ?_
              refine z_pushI (z := (-1)) rfl rfl ?_
              refine z_goto rfl ?_
              refine z_iret rfl rfl ?_
              refine ⟨?_, ?_⟩
              · first | rfl | exact congrArg (fun v => some (zi v)) (by omega) | (exfalso; omega)
              · exact hr
            · refine z_iload rfl rfl ?_
              refine z_iload rfl rfl ?_
              refine z_icmp_gt rfl (by omega) (by omega) (fun h10 => ?_) (fun h10 => ?_)
              · refine z_pushI (z := 0) rfl rfl ?_
                refine z_bret rfl rfl (by decide) ?_
                show zW _ _ _ _ _ _ _ _ _ _
                refine z_bret rfl rfl (by decide) ?_
                show zW _ _ _ _ _ _ _ _ _ _
                refine z_if_neF rfl (by decide) (by decide) ?_
                refine z_pushI (z := (-1)) rfl rfl ?_
                refine z_goto rfl ?_
                refine z_iret rfl rfl ?_
                refine ⟨?_, ?_⟩
                · first | rfl | exact congrArg (fun v => some (zi v)) (by omega) | (exfalso; omega)
                · exact hr
              · refine z_pushI (z := 1) rfl rfl ?_
                refine z_goto rfl ?_
                refine z_bret rfl rfl (by decide) ?_
                show zW _ _ _ _ _ _ _ _ _ _
                refine z_bret rfl rfl (by decide) ?_
                show zW _ _ _ _ _ _ _ _ _ _
                refine z_if_neT rfl (by decide) (by decide) ?_
                refine z_iload rfl rfl ?_
                refine z_pushI (z := 14) rfl rfl ?_
                refine z_icmp_ne rfl (by omega) (by decide) (fun h11 => ?_) (fun h11 => ?_)
                · refine z_aload rfl rfl ?_
                  refine z_getR (r := 76) rfl rfl (hRr _ rm_50_43 (by decide)) ?_
                  refine z_iload rfl rfl ?_
                  refine z_iald (v := J 76 p) rfl rfl (by decide) (by omega) (rfl) ?_
                  refine z_iret rfl rfl ?_
                  refine ⟨?_, ?_⟩
                  · first | rfl | exact congrArg (fun v => some (zi v)) (by omega) | (exfalso; omega)
                  · exact hr
                · refine z_aload rfl rfl ?_
                  refine z_getR (r := 75) rfl rfl (hRr _ rm_50_42 (by decide)) ?_
                  refine z_iload rfl rfl ?_
                  refine z_iald (v := J 75 p) rfl rfl (by decide) (by omega) (rfl) ?_
                  refine z_goto rfl ?_
                  refine z_iret rfl rfl ?_
                  refine ⟨?_, ?_⟩
                  · first | rfl | exact congrArg (fun v => some (zi v)) (by omega) | (exfalso; omega)
                  · exact hr
      · refine z_iload rfl rfl ?_
        refine z_aload rfl rfl ?_
        refine z_getI (v := J 8 2) rfl rfl (rfl) ?_
        refine z_icmp_ge rfl (by omega) (by omega) (fun h7 => ?_) (fun h7 => ?_)
        · refine z_pushI (z := 0) rfl rfl ?_
          refine z_bret rfl rfl (by decide) ?_
          show zW _ _ _ _ _ _ _ _ _ _
          refine z_if_neF rfl (by decide) (by decide) ?_
          refine z_pushI (z := (-1)) rfl rfl ?_
          refine z_iret rfl rfl ?_
          refine ⟨_, rfl, ?_⟩
          show zW _ _ _ _ [some (.ref 50), some (zi p), some (zi w)] _ _ _ _ _
          refine z_iload rfl rfl ?_
          refine z_pushI (z := 14) rfl rfl ?_
          refine z_pushI (z := 15) rfl rfl ?_
          refine z_callSi (As := [_, _, _]) (le := [some _, some _, some _]) rfl rfl (Nat.le_of_ble_eq_true rfl) (Nat.le_of_ble_eq_true rfl) rfl ?_
          refine z_iload rfl rfl ?_
          refine z_iload rfl rfl ?_
          refine z_icmp_lt rfl (by omega) (by decide) (fun h8 => ?_) (fun h8 => ?_)
          · refine z_pushI (z := 0) rfl rfl ?_
            refine z_bret rfl rfl (by decide) ?_
            show zW _ _ _ _ _ _ _ _ _ _
            refine z_if_eqT rfl (by decide) (by decide) ?_
            refine z_aload rfl rfl ?_
            refine z_iload rfl rfl ?_
            refine z_iload rfl rfl ?_
            refine z_callVP (As := [_, _]) (v := 1) rfl rfl rfl (Nat.le_of_ble_eq_true rfl) (Nat.le_of_ble_eq_true rfl) (isOne_1 hRr y2.symm yn hp hw hV) ?_
            refine z_if_eqF rfl (by decide) (by decide) ?_
            refine z_aload rfl rfl ?_
            refine z_iload rfl rfl ?_
            refine z_iload rfl rfl ?_
            refine z_callVP (As := [_, _]) (v := (cN J) p w) rfl rfl rfl (Nat.le_of_ble_eq_true rfl) (Nat.le_of_ble_eq_true rfl) (valueAt_s hRr y1.symm y2.symm y3 hp hw hV) ?_
            refine z_goto rfl ?_
            refine z_iret rfl rfl ?_
            refine ⟨?_, ?_⟩
            · first | rfl | exact congrArg (fun v => some (zi v)) (by omega) | (exfalso; omega)
            · exact hr
          · refine z_iload rfl rfl ?_
            refine z_iload rfl rfl ?_
            refine z_icmp_gt rfl (by omega) (by decide) (fun h9 => ?_) (fun h9 => ?_)
            · refine z_pushI (z := 0) rfl rfl ?_
              refine z_bret rfl rfl (by decide) ?_
              show zW _ _ _ _ _ _ _ _ _ _
              refine z_if_eqT rfl (by decide) (by decide) ?_
              refine z_aload rfl rfl ?_
              refine z_iload rfl rfl ?_
              refine z_iload rfl rfl ?_
              refine z_callVP (As := [_, _]) (v := 1) rfl rfl rfl (Nat.le_of_ble_eq_true rfl) (Nat.le_of_ble_eq_true rfl) (isOne_1 hRr y2.symm yn hp hw hV) ?_
              refine z_if_eqF rfl (by decide) (by decide) ?_
              refine z_aload rfl rfl ?_
              refine z_iload rfl rfl ?_
              refine z_iload rfl rfl ?_
              refine z_callVP (As := [_, _]) (v := (cN J) p w) rfl rfl rfl (Nat.le_of_ble_eq_true rfl) (Nat.le_of_ble_eq_true rfl) (valueAt_s hRr y1.symm y2.symm y3 hp hw hV) ?_
              refine z_goto rfl ?_
              refine z_iret rfl rfl ?_
              refine ⟨?_, ?_⟩
              · first | rfl | exact congrArg (fun v => some (zi v)) (by omega) | (exfalso; omega)
              · exact hr
            · refine z_pushI (z := 1) rfl rfl ?_
              refine z_goto rfl ?_
              refine z_bret rfl rfl (by decide) ?_
              show zW _ _ _ _ _ _ _ _ _ _
              refine z_if_eqF rfl (by decide) (by decide) ?_
              refine z_aload rfl rfl ?_
              refine z_iload rfl rfl ?_
              refine z_callVi (As := [_]) (le := [some _, some _]) rfl rfl rfl (Nat.le_of_ble_eq_true rfl) (Nat.le_of_ble_eq_true rfl) rfl ?_
              refine z_iload rfl rfl ?_
              refine z_pushI (z := 0) rfl rfl ?_
              refine z_aload rfl rfl ?_
              refine z_getI (v := J 50 1) rfl rfl (rfl) ?_
              refine z_pushI (z := 1) rfl rfl ?_
              refine z_isub (e := (J 50 1) - 1) rfl rfl ?_
              refine z_callSi (As := [_, _, _]) (le := [some _, some _, some _]) rfl rfl (Nat.le_of_ble_eq_true rfl) (Nat.le_of_ble_eq_true rfl) rfl ?_
              refine z_iload rfl rfl ?_
              refine z_iload rfl rfl ?_
              refine z_icmp_lt rfl (by omega) (by decide) (fun h10 => ?_) (fun h10 => ?_)
              · refine z_pushI (z := 0) rfl rfl ?_
                refine z_bret rfl rfl (by decide) ?_
                show zW _ _ _ _ _ _ _ _ _ _
                refine z_bret rfl rfl (by decide) ?_
                show zW _ _ _ _ _ _ _ _ _ _
                refine z_if_neF rfl (by decide) (by decide) ?_
                refine z_pushI (z := (-1)) rfl rfl ?_
                refine z_goto rfl ?_
                refine z_iret rfl rfl ?_
                refine ⟨?_, ?_⟩
                · first | rfl | exact congrArg (fun v => some (zi v)) (by omega) | (exfalso; omega)
                · exact hr
              · refine z_iload rfl rfl ?_
                refine z_iload rfl rfl ?_
                refine z_icmp_gt rfl (by omega) (by omega) (fun h11 => ?_) (fun h11 => ?_)
                · refine z_pushI (z := 0) rfl rfl ?_
                  refine z_bret rfl rfl (by decide) ?_
                  show zW _ _ _ _ _ _ _ _ _ _
                  refine z_bret rfl rfl (by decide) ?_
                  show zW _ _ _ _ _ _ _ _ _ _
                  refine z_if_neF rfl (by decide) (by decide) ?_
                  refine z_pushI (z := (-1)) rfl rfl ?_
                  refine z_goto rfl ?_
                  refine z_iret rfl rfl ?_
                  refine ⟨?_, ?_⟩
                  · first | rfl | exact congrArg (fun v => some (zi v)) (by omega) | (exfalso; omega)
                  · exact hr
                · refine z_pushI (z := 1) rfl rfl ?_
                  refine z_goto rfl ?_
                  refine z_bret rfl rfl (by decide) ?_
                  show zW _ _ _ _ _ _ _ _ _ _
                  refine z_bret rfl rfl (by decide) ?_
                  show zW _ _ _ _ _ _ _ _ _ _
                  refine z_if_neT rfl (by decide) (by decide) ?_
                  refine z_iload rfl rfl ?_
                  refine z_pushI (z := 14) rfl rfl ?_
                  refine z_icmp_ne rfl (by omega) (by decide) (fun h12 => ?_) (fun h12 => ?_)
                  · refine z_aload rfl rfl ?_
                    refine z_getR (r := 76) rfl rfl (hRr _ rm_50_43 (by decide)) ?_
                    refine z_iload rfl rfl ?_
                    refine z_iald (v := J 76 p) rfl rfl (by decide) (by omega) (rfl) ?_
                    refine z_iret rfl rfl ?_
                    refine ⟨?_, ?_⟩
                    · first | rfl | exact congrArg (fun v => some (zi v)) (by omega) | (exfalso; omega)
                    · exact hr
                  · refine z_aload rfl rfl ?_
                    refine z_getR (r := 75) rfl rfl (hRr _ rm_50_42 (by decide)) ?_
                    refine z_iload rfl rfl ?_
                    refine z_iald (v := J 75 p) rfl rfl (by decide) (by omega) (rfl) ?_
                    refine z_goto rfl ?_
                    refine z_iret rfl rfl ?_
                    refine ⟨?_, ?_⟩
                    · first | rfl | exact congrArg (fun v => some (zi v)) (by omega) | (exfalso; omega)
                    · exact hr
        · refine z_pushI (z := 1) rfl rfl ?_
          refine z_goto rfl ?_
          refine z_bret rfl rfl (by decide) ?_
          show zW _ _ _ _ _ _ _ _ _ _
          refine z_if_neT rfl (by decide) (by decide) ?_
          refine z_iload rfl rfl ?_
          refine z_pushI (z := 14) rfl rfl ?_
          refine z_icmp_ne rfl (by omega) (by decide) (fun h8 => ?_) (fun h8 => ?_)
          · refine z_aload rfl rfl ?_
            refine z_getR (r := 23) rfl rfl (hR _ rm_0_6) ?_
            refine z_getR (r := 25) rfl rfl (hR _ rm_23_2) ?_
            refine z_iload rfl rfl ?_
            refine z_iald (v := J 25 p) rfl rfl (by decide) (by omega) (rfl) ?_
            refine z_iret rfl rfl ?_
            refine ⟨_, rfl, ?_⟩
            show zW _ _ _ _ [some (.ref 50), some (zi p), some (zi w)] _ _ _ _ _
            refine z_iload rfl rfl ?_
            refine z_pushI (z := 14) rfl rfl ?_
            refine z_pushI (z := 15) rfl rfl ?_
            refine z_callSi (As := [_, _, _]) (le := [some _, some _, some _]) rfl rfl (Nat.le_of_ble_eq_true rfl) (Nat.le_of_ble_eq_true rfl) rfl ?_
            refine z_iload rfl rfl ?_
            refine z_iload rfl rfl ?_
            refine z_icmp_lt rfl (by omega) (by decide) (fun h9 => ?_) (fun h9 => ?_)
            · refine z_pushI (z := 0) rfl rfl ?_
              refine z_bret rfl rfl (by decide) ?_
              show zW _ _ _ _ _ _ _ _ _ _
              refine z_if_eqT rfl (by decide) (by decide) ?_
              refine z_aload rfl rfl ?_
              refine z_iload rfl rfl ?_
              refine z_iload rfl rfl ?_
              refine z_callVP (As := [_, _]) (v := 1) rfl rfl rfl (Nat.le_of_ble_eq_true rfl) (Nat.le_of_ble_eq_true rfl) (isOne_1 hRr y2.symm yn hp hw hV) ?_
              refine z_if_eqF rfl (by decide) (by decide) ?_
              refine z_aload rfl rfl ?_
              refine z_iload rfl rfl ?_
              refine z_iload rfl rfl ?_
              refine z_callVP (As := [_, _]) (v := (cN J) p w) rfl rfl rfl (Nat.le_of_ble_eq_true rfl) (Nat.le_of_ble_eq_true rfl) (valueAt_s hRr y1.symm y2.symm y3 hp hw hV) ?_
              refine z_goto rfl ?_
              refine z_iret rfl rfl ?_
              refine ⟨?_, ?_⟩
              · first | rfl | exact congrArg (fun v => some (zi v)) (by omega) | (exfalso; omega)
              · exact hr
            · refine z_iload rfl rfl ?_
              refine z_iload rfl rfl ?_
              refine z_icmp_gt rfl (by omega) (by decide) (fun h10 => ?_) (fun h10 => ?_)
              · refine z_pushI (z := 0) rfl rfl ?_
                refine z_bret rfl rfl (by decide) ?_
                show zW _ _ _ _ _ _ _ _ _ _
                refine z_if_eqT rfl (by decide) (by decide) ?_
                refine z_aload rfl rfl ?_
                refine z_iload rfl rfl ?_
                refine z_iload rfl rfl ?_
                refine z_callVP (As := [_, _]) (v := 1) rfl rfl rfl (Nat.le_of_ble_eq_true rfl) (Nat.le_of_ble_eq_true rfl) (isOne_1 hRr y2.symm yn hp hw hV) ?_
                refine z_if_eqF rfl (by decide) (by decide) ?_
                refine z_aload rfl rfl ?_
                refine z_iload rfl rfl ?_
                refine z_iload rfl rfl ?_
                refine z_callVP (As := [_, _]) (v := (cN J) p w) rfl rfl rfl (Nat.le_of_ble_eq_true rfl) (Nat.le_of_ble_eq_true rfl) (valueAt_s hRr y1.symm y2.symm y3 hp hw hV) ?_
                refine z_goto rfl ?_
                refine z_iret rfl rfl ?_
                refine ⟨?_, ?_⟩
                · first | rfl | exact congrArg (fun v => some (zi v)) (by omega) | (exfalso; omega)
                · exact hr
              · refine z_pushI (z := 1) rfl rfl ?_
                refine z_goto rfl ?_
                refine z_bret rfl rfl (by decide) ?_
                show zW _ _ _ _ _ _ _ _ _ _
                refine z_if_eqF rfl (by decide) (by decide) ?_
                refine z_aload rfl rfl ?_
                refine z_iload rfl rfl ?_
                refine z_callVi (As := [_]) (le := [some _, some _]) rfl rfl rfl (Nat.le_of_ble_eq_true rfl) (Nat.le_of_ble_eq_true rfl) rfl ?_
                refine z_iload rfl rfl ?_
                refine z_pushI (z := 0) rfl rfl ?_
                refine z_aload rfl rfl ?_
                refine z_getI (v := J 50 1) rfl rfl (rfl) ?_
                refine z_pushI (z := 1) rfl rfl ?_
                refine z_isub (e := (J 50 1) - 1) rfl rfl ?_
                refine z_callSi (As := [_, _, _]) (le := [some _, some _, some _]) rfl rfl (Nat.le_of_ble_eq_true rfl) (Nat.le_of_ble_eq_true rfl) rfl ?_
                refine z_iload rfl rfl ?_
                refine z_iload rfl rfl ?_
                refine z_icmp_lt rfl (by omega) (by decide) (fun h11 => ?_) (fun h11 => ?_)
                · refine z_pushI (z := 0) rfl rfl ?_
                  refine z_bret rfl rfl (by decide) ?_
                  show zW _ _ _ _ _ _ _ _ _ _
                  refine z_bret rfl rfl (by decide) ?_
                  show zW _ _ _ _ _ _ _ _ _ _
                  refine z_if_neF rfl (by decide) (by decide) ?_
                  refine z_pushI (z := (-1)) rfl rfl ?_
                  refine z_goto rfl ?_
                  refine z_iret rfl rfl ?_
                  refine ⟨?_, ?_⟩
                  · first | rfl | exact congrArg (fun v => some (zi v)) (by omega) | (exfalso; omega)
                  · exact hr
                · refine z_iload rfl rfl ?_
                  refine z_iload rfl rfl ?_
                  refine z_icmp_gt rfl (by omega) (by omega) (fun h12 => ?_) (fun h12 => ?_)
                  · refine z_pushI (z := 0) rfl rfl ?_
                    refine z_bret rfl rfl (by decide) ?_
                    show zW _ _ _ _ _ _ _ _ _ _
                    refine z_bret rfl rfl (by decide) ?_
                    show zW _ _ _ _ _ _ _ _ _ _
                    refine z_if_neF rfl (by decide) (by decide) ?_
                    refine z_pushI (z := (-1)) rfl rfl ?_
                    refine z_goto rfl ?_
                    refine z_iret rfl rfl ?_
                    refine ⟨?_, ?_⟩
                    · first | rfl | exact congrArg (fun v => some (zi v)) (by omega) | (exfalso; omega)
                    · exact hr
                  · refine z_pushI (z := 1) rfl rfl ?_
                    refine z_goto rfl ?_
                    refine z_bret rfl rfl (by decide) ?_
                    show zW _ _ _ _ _ _ _ _ _ _
                    refine z_bret rfl rfl (by decide) ?_
                    show zW _ _ _ _ _ _ _ _ _ _
                    refine z_if_neT rfl (by decide) (by decide) ?_
                    refine z_iload rfl rfl ?_
                    refine z_pushI (z := 14) rfl rfl ?_
                    refine z_icmp_ne rfl (by omega) (by decide) (fun h13 => ?_) (fun h13 => ?_)
                    · refine z_aload rfl rfl ?_
                      refine z_getR (r := 76) rfl rfl (hRr _ rm_50_43 (by decide)) ?_
                      refine z_iload rfl rfl ?_
                      refine z_iald (v := J 76 p) rfl rfl (by decide) (by omega) (rfl) ?_
                      refine z_iret rfl rfl ?_
                      refine ⟨?_, ?_⟩
                      · first | rfl | exact congrArg (fun v => some (zi v)) (by omega) | (exfalso; omega)
                      · exact hr
                    · refine z_aload rfl rfl ?_
                      refine z_getR (r := 75) rfl rfl (hRr _ rm_50_42 (by decide)) ?_
                      refine z_iload rfl rfl ?_
                      refine z_iald (v := J 75 p) rfl rfl (by decide) (by omega) (rfl) ?_
                      refine z_goto rfl ?_
                      refine z_iret rfl rfl ?_
                      refine ⟨?_, ?_⟩
                      · first | rfl | exact congrArg (fun v => some (zi v)) (by omega) | (exfalso; omega)
                      · exact hr
          · refine z_aload rfl rfl ?_
            refine z_getR (r := 23) rfl rfl (hR _ rm_0_6) ?_
            refine z_getR (r := 24) rfl rfl (hR _ rm_23_1) ?_
            refine z_iload rfl rfl ?_
            refine z_iald (v := J 24 p) rfl rfl (by decide) (by omega) (rfl) ?_
            refine z_goto rfl ?_
            refine z_iret rfl rfl ?_
            refine ⟨_, rfl, ?_⟩
            show zW _ _ _ _ [some (.ref 50), some (zi p), some (zi w)] _ _ _ _ _
            refine z_iload rfl rfl ?_
            refine z_pushI (z := 14) rfl rfl ?_
            refine z_pushI (z := 15) rfl rfl ?_
            refine z_callSi (As := [_, _, _]) (le := [some _, some _, some _]) rfl rfl (Nat.le_of_ble_eq_true rfl) (Nat.le_of_ble_eq_true rfl) rfl ?_
            refine z_iload rfl rfl ?_
            refine z_iload rfl rfl ?_
            refine z_icmp_lt rfl (by omega) (by decide) (fun h9 => ?_) (fun h9 => ?_)
            · refine z_pushI (z := 0) rfl rfl ?_
              refine z_bret rfl rfl (by decide) ?_
              show zW _ _ _ _ _ _ _ _ _ _
              refine z_if_eqT rfl (by decide) (by decide) ?_
              refine z_aload rfl rfl ?_
              refine z_iload rfl rfl ?_
              refine z_iload rfl rfl ?_
              refine z_callVP (As := [_, _]) (v := 1) rfl rfl rfl (Nat.le_of_ble_eq_true rfl) (Nat.le_of_ble_eq_true rfl) (isOne_1 hRr y2.symm yn hp hw hV) ?_
              refine z_if_eqF rfl (by decide) (by decide) ?_
              refine z_aload rfl rfl ?_
              refine z_iload rfl rfl ?_
              refine z_iload rfl rfl ?_
              refine z_callVP (As := [_, _]) (v := (cN J) p w) rfl rfl rfl (Nat.le_of_ble_eq_true rfl) (Nat.le_of_ble_eq_true rfl) (valueAt_s hRr y1.symm y2.symm y3 hp hw hV) ?_
              refine z_goto rfl ?_
              refine z_iret rfl rfl ?_
              refine ⟨?_, ?_⟩
              · first | rfl | exact congrArg (fun v => some (zi v)) (by omega) | (exfalso; omega)
              · exact hr
            · refine z_iload rfl rfl ?_
              refine z_iload rfl rfl ?_
              refine z_icmp_gt rfl (by omega) (by decide) (fun h10 => ?_) (fun h10 => ?_)
              · refine z_pushI (z := 0) rfl rfl ?_
                refine z_bret rfl rfl (by decide) ?_
                show zW _ _ _ _ _ _ _ _ _ _
                refine z_if_eqT rfl (by decide) (by decide) ?_
                refine z_aload rfl rfl ?_
                refine z_iload rfl rfl ?_
                refine z_iload rfl rfl ?_
                refine z_callVP (As := [_, _]) (v := 1) rfl rfl rfl (Nat.le_of_ble_eq_true rfl) (Nat.le_of_ble_eq_true rfl) (isOne_1 hRr y2.symm yn hp hw hV) ?_
                refine z_if_eqF rfl (by decide) (by decide) ?_
                refine z_aload rfl rfl ?_
                refine z_iload rfl rfl ?_
                refine z_iload rfl rfl ?_
                refine z_callVP (As := [_, _]) (v := (cN J) p w) rfl rfl rfl (Nat.le_of_ble_eq_true rfl) (Nat.le_of_ble_eq_true rfl) (valueAt_s hRr y1.symm y2.symm y3 hp hw hV) ?_
                refine z_goto rfl ?_
                refine z_iret rfl rfl ?_
                refine ⟨?_, ?_⟩
                · first | rfl | exact congrArg (fun v => some (zi v)) (by omega) | (exfalso; omega)
                · exact hr
              · refine z_pushI (z := 1) rfl rfl ?_
                refine z_goto rfl ?_
                refine z_bret rfl rfl (by decide) ?_
                show zW _ _ _ _ _ _ _ _ _ _
                refine z_if_eqF rfl (by decide) (by decide) ?_
                refine z_aload rfl rfl ?_
                refine z_iload rfl rfl ?_
                refine z_callVi (As := [_]) (le := [some _, some _]) rfl rfl rfl (Nat.le_of_ble_eq_true rfl) (Nat.le_of_ble_eq_true rfl) rfl ?_
                refine z_iload rfl rfl ?_
                refine z_pushI (z := 0) rfl rfl ?_
                refine z_aload rfl rfl ?_
                refine z_getI (v := J 50 1) rfl rfl (rfl) ?_
                refine z_pushI (z := 1) rfl rfl ?_
                refine z_isub (e := (J 50 1) - 1) rfl rfl ?_
                refine z_callSi (As := [_, _, _]) (le := [some _, some _, some _]) rfl rfl (Nat.le_of_ble_eq_true rfl) (Nat.le_of_ble_eq_true rfl) rfl ?_
                refine z_iload rfl rfl ?_
                refine z_iload rfl rfl ?_
                refine z_icmp_lt rfl (by omega) (by decide) (fun h11 => ?_) (fun h11 => ?_)
                · refine z_pushI (z := 0) rfl rfl ?_
                  refine z_bret rfl rfl (by decide) ?_
                  show zW _ _ _ _ _ _ _ _ _ _
                  refine z_bret rfl rfl (by decide) ?_
                  show zW _ _ _ _ _ _ _ _ _ _
                  refine z_if_neF rfl (by decide) (by decide) ?_
                  refine z_pushI (z := (-1)) rfl rfl ?_
                  refine z_goto rfl ?_
                  refine z_iret rfl rfl ?_
                  refine ⟨?_, ?_⟩
                  · first | rfl | exact congrArg (fun v => some (zi v)) (by omega) | (exfalso; omega)
                  · exact hr
                · refine z_iload rfl rfl ?_
                  refine z_iload rfl rfl ?_
                  refine z_icmp_gt rfl (by omega) (by omega) (fun h12 => ?_) (fun h12 => ?_)
                  · refine z_pushI (z := 0) rfl rfl ?_
                    refine z_bret rfl rfl (by decide) ?_
                    show zW _ _ _ _ _ _ _ _ _ _
                    refine z_bret rfl rfl (by decide) ?_
                    show zW _ _ _ _ _ _ _ _ _ _
                    refine z_if_neF rfl (by decide) (by decide) ?_
                    refine z_pushI (z := (-1)) rfl rfl ?_
                    refine z_goto rfl ?_
                    refine z_iret rfl rfl ?_
                    refine ⟨?_, ?_⟩
                    · first | rfl | exact congrArg (fun v => some (zi v)) (by omega) | (exfalso; omega)
                    · exact hr
                  · refine z_pushI (z := 1) rfl rfl ?_
                    refine z_goto rfl ?_
                    refine z_bret rfl rfl (by decide) ?_
                    show zW _ _ _ _ _ _ _ _ _ _
                    refine z_bret rfl rfl (by decide) ?_
                    show zW _ _ _ _ _ _ _ _ _ _
                    refine z_if_neT rfl (by decide) (by decide) ?_
                    refine z_iload rfl rfl ?_
                    refine z_pushI (z := 14) rfl rfl ?_
                    refine z_icmp_ne rfl (by omega) (by decide) (fun h13 => ?_) (fun h13 => ?_)
                    · refine z_aload rfl rfl ?_
                      refine z_getR (r := 76) rfl rfl (hRr _ rm_50_43 (by decide)) ?_
                      refine z_iload rfl rfl ?_
                      refine z_iald (v := J 76 p) rfl rfl (by decide) (by omega) (rfl) ?_
                      refine z_iret rfl rfl ?_
                      refine ⟨?_, ?_⟩
                      · first | rfl | exact congrArg (fun v => some (zi v)) (by omega) | (exfalso; omega)
                      · exact hr
                    · refine z_aload rfl rfl ?_
                      refine z_getR (r := 75) rfl rfl (hRr _ rm_50_42 (by decide)) ?_
                      refine z_iload rfl rfl ?_
                      refine z_iald (v := J 75 p) rfl rfl (by decide) (by omega) (rfl) ?_
                      refine z_goto rfl ?_
                      refine z_iret rfl rfl ?_
                      refine ⟨?_, ?_⟩
                      · first | rfl | exact congrArg (fun v => some (zi v)) (by omega) | (exfalso; omega)
                      · exact hr
theorem st_of_0 {X : Nat × (Nat → Int32)} {d : Nat} {J M : zA} {R : zR} {p w : Int} (hr : Rel X J M R) (hp : -2147483648 ≤ p ∧ p < 2147483648) (hw : -2147483648 ≤ w ∧ w < 2147483648) (hs : ¬ (w = 14 ∨ w = 15)) (hV : ¬ zV (J 8 2) p w) : zW X (d + 20) 105 0 (gEn 105 [(.ref 0), (zi p), (zi w)]) [] J M R (stP X (d + 20) 163 [(zi p), (zi w)]) := by
  have hr0 := hr
  obtain ⟨hR, hG, hY, hD, hP, hC, hAc, hS, hTp, hX, hW⟩ := hr0
  have hRr : zRoR R := zRoR_of hR
  have hY0 := hY
  obtain ⟨y1, y2, y3⟩ := hY0
  have yn := zNn y3
  have hD0 := hD
  obtain ⟨⟨d1, d2, d3, d4, d5, d6⟩, d7, d8, d9, d10, d11⟩ := hD0
  show zW _ _ _ _ [some (.ref 0), some (zi p), some (zi w)] _ _ _ _ _
  refine z_iload rfl rfl ?_
  refine z_pushI (z := 14) rfl rfl ?_
  refine z_icmp_eq rfl (by omega) (by decide) (fun h1 => ?_) (fun h1 => ?_)
  · refine z_aload rfl rfl ?_
    refine z_getR (r := 8) rfl rfl (hR _ rm_0_1) ?_
    refine z_iload rfl rfl ?_
    refine z_callVi (As := [_]) (le := [some _, some _]) rfl rfl rfl (Nat.le_of_ble_eq_true rfl) (Nat.le_of_ble_eq_true rfl) rfl ?_
    refine z_iload rfl rfl ?_
    refine z_if_lt rfl (by omega) (fun h2 => ?_) (fun h2 => ?_)
    · refine z_pushI (z := 0) rfl rfl ?_
      refine z_bret rfl rfl (by decide) ?_
      show zW _ _ _ _ _ _ _ _ _ _
      refine z_if_neF rfl (by decide) (by decide) ?_
      refine z_pushI (z := (-1)) rfl rfl ?_
      refine z_iret rfl rfl ?_
      refine ⟨_, rfl, ?_⟩
      show zW _ _ _ _ [some (.ref 50), some (zi p), some (zi w)] _ _ _ _ _
      refine z_iload rfl rfl ?_
      refine z_pushI (z := 14) rfl rfl ?_
      refine z_pushI (z := 15) rfl rfl ?_
      refine z_callSi (As := [_, _, _]) (le := [some _, some _, some _]) rfl rfl (Nat.le_of_ble_eq_true rfl) (Nat.le_of_ble_eq_true rfl) rfl ?_
      refine z_iload rfl rfl ?_
      refine z_iload rfl rfl ?_
      refine z_icmp_lt rfl (by omega) (by decide) (fun h3 => ?_) (fun h3 => ?_)
      · refine z_pushI (z := 0) rfl rfl ?_
        refine z_bret rfl rfl (by decide) ?_
        show zW _ _ _ _ _ _ _ _ _ _
        refine z_if_eqT rfl (by decide) (by decide) ?_
        refine z_aload rfl rfl ?_
        refine z_iload rfl rfl ?_
        refine z_iload rfl rfl ?_
        refine z_callVP (As := [_, _]) (v := 0) rfl rfl rfl (Nat.le_of_ble_eq_true rfl) (Nat.le_of_ble_eq_true rfl) (isOne_0 hRr y2.symm yn hp hw hV) ?_
        refine z_if_eqT rfl (by decide) (by decide) ?_
        refine z_pushI (z := (-1)) rfl rfl ?_
        refine z_iret rfl rfl ?_
        refine ⟨?_, ?_⟩
        · first | rfl | exact congrArg (fun v => some (zi v)) (by omega) | (exfalso; omega)
        · exact hr
      · refine z_iload rfl rfl ?_
        refine z_iload rfl rfl ?_
        refine z_icmp_gt rfl (by omega) (by decide) (fun h4 => ?_) (fun h4 => ?_)
        · refine z_pushI (z := 0) rfl rfl ?_
          refine z_bret rfl rfl (by decide) ?_
          show zW _ _ _ _ _ _ _ _ _ _
          refine z_if_eqT rfl (by decide) (by decide) ?_
          refine z_aload rfl rfl ?_
          refine z_iload rfl rfl ?_
          refine z_iload rfl rfl ?_
          refine z_callVP (As := [_, _]) (v := 0) rfl rfl rfl (Nat.le_of_ble_eq_true rfl) (Nat.le_of_ble_eq_true rfl) (isOne_0 hRr y2.symm yn hp hw hV) ?_
          refine z_if_eqT rfl (by decide) (by decide) ?_
          refine z_pushI (z := (-1)) rfl rfl ?_
          refine z_iret rfl rfl ?_
          refine ⟨?_, ?_⟩
          · first | rfl | exact congrArg (fun v => some (zi v)) (by omega) | (exfalso; omega)
          · exact hr
        · refine z_pushI (z := 1) rfl rfl ?_
          refine z_goto rfl ?_
          refine z_bret rfl rfl (by decide) ?_
          show zW _ _ _ _ _ _ _ _ _ _
          refine z_if_eqF rfl (by decide) (by decide) ?_
          refine z_aload rfl rfl ?_
          refine z_iload rfl rfl ?_
          refine z_callVi (As := [_]) (le := [some _, some _]) rfl rfl rfl (Nat.le_of_ble_eq_true rfl) (Nat.le_of_ble_eq_true rfl) rfl ?_
          refine z_iload rfl rfl ?_
          refine z_pushI (z := 0) rfl rfl ?_
          refine z_aload rfl rfl ?_
          refine z_getI (v := J 50 1) rfl rfl (rfl) ?_
          refine z_pushI (z := 1) rfl rfl ?_
          refine z_isub (e := (J 50 1) - 1) rfl rfl ?_
          refine z_callSi (As := [_, _, _]) (le := [some _, some _, some _]) rfl rfl (Nat.le_of_ble_eq_true rfl) (Nat.le_of_ble_eq_true rfl) rfl ?_
          refine z_iload rfl rfl ?_
          refine z_iload rfl rfl ?_
          refine z_icmp_lt rfl (by omega) (by decide) (fun h5 => ?_) (fun h5 => ?_)
          · refine z_pushI (z := 0) rfl rfl ?_
            refine z_bret rfl rfl (by decide) ?_
            show zW _ _ _ _ _ _ _ _ _ _
            refine z_bret rfl rfl (by decide) ?_
            show zW _ _ _ _ _ _ _ _ _ _
            refine z_if_neF rfl (by decide) (by decide) ?_
            refine z_pushI (z := (-1)) rfl rfl ?_
            refine z_goto rfl ?_
            refine z_iret rfl rfl ?_
            refine ⟨?_, ?_⟩
            · first | rfl | exact congrArg (fun v => some (zi v)) (by omega) | (exfalso; omega)
            · exact hr
          · refine z_iload rfl rfl ?_
            refine z_iload rfl rfl ?_
            refine z_icmp_gt rfl (by omega) (by omega) (fun h6 => ?_) (fun h6 => ?_)
            · refine z_pushI (z := 0) rfl rfl ?_
              refine z_bret rfl rfl (by decide) ?_
              show zW _ _ _ _ _ _ _ _ _ _
              refine z_bret rfl rfl (by decide) ?_
              show zW _ _ _ _ _ _ _ _ _ _
              refine z_if_neF rfl (by decide) (by decide) ?_
              refine z_pushI (z := (-1)) rfl rfl ?_
              refine z_goto rfl ?_
              refine z_iret rfl rfl ?_
              refine ⟨?_, ?_⟩
              · first | rfl | exact congrArg (fun v => some (zi v)) (by omega) | (exfalso; omega)
              · exact hr
            · refine z_pushI (z := 1) rfl rfl ?_
              refine z_goto rfl ?_
              refine z_bret rfl rfl (by decide) ?_
              show zW _ _ _ _ _ _ _ _ _ _
              refine z_bret rfl rfl (by decide) ?_
              show zW _ _ _ _ _ _ _ _ _ _
              refine z_if_neT rfl (by decide) (by decide) ?_
              refine z_iload rfl rfl ?_
              refine z_pushI (z := 14) rfl rfl ?_
              refine z_icmp_ne rfl (by omega) (by decide) (fun h7 => ?_) (fun h7 => ?_)
              · refine z_aload rfl rfl ?_
                refine z_getR (r := 76) rfl rfl (hRr _ rm_50_43 (by decide)) ?_
                refine z_iload rfl rfl ?_
                refine z_iald (v := J 76 p) rfl rfl (by decide) (by omega) (rfl) ?_
                refine z_iret rfl rfl ?_
                refine ⟨?_, ?_⟩
                · first | rfl | exact congrArg (fun v => some (zi v)) (by omega) | (exfalso; omega)
                · exact hr
              · refine z_aload rfl rfl ?_
                refine z_getR (r := 75) rfl rfl (hRr _ rm_50_42 (by decide)) ?_
                refine z_iload rfl rfl ?_
                refine z_iald (v := J 75 p) rfl rfl (by decide) (by omega) (rfl) ?_
                refine z_goto rfl ?_
                refine z_iret rfl rfl ?_
                refine ⟨?_, ?_⟩
                · first | rfl | exact congrArg (fun v => some (zi v)) (by omega) | (exfalso; omega)
                · exact hr
    · refine z_iload rfl rfl ?_
      refine z_aload rfl rfl ?_
      refine z_getI (v := J 8 2) rfl rfl (rfl) ?_
      refine z_icmp_ge rfl (by omega) (by omega) (fun h3 => ?_) (fun h3 => ?_)
      · refine z_pushI (z := 0) rfl rfl ?_
        refine z_bret rfl rfl (by decide) ?_
        show zW _ _ _ _ _ _ _ _ _ _
        refine z_if_neF rfl (by decide) (by decide) ?_
        refine z_pushI (z := (-1)) rfl rfl ?_
        refine z_iret rfl rfl ?_
        refine ⟨_, rfl, ?_⟩
        show zW _ _ _ _ [some (.ref 50), some (zi p), some (zi w)] _ _ _ _ _
        refine z_iload rfl rfl ?_
        refine z_pushI (z := 14) rfl rfl ?_
        refine z_pushI (z := 15) rfl rfl ?_
        refine z_callSi (As := [_, _, _]) (le := [some _, some _, some _]) rfl rfl (Nat.le_of_ble_eq_true rfl) (Nat.le_of_ble_eq_true rfl) rfl ?_
        refine z_iload rfl rfl ?_
        refine z_iload rfl rfl ?_
        refine z_icmp_lt rfl (by omega) (by decide) (fun h4 => ?_) (fun h4 => ?_)
        · refine z_pushI (z := 0) rfl rfl ?_
          refine z_bret rfl rfl (by decide) ?_
          show zW _ _ _ _ _ _ _ _ _ _
          refine z_if_eqT rfl (by decide) (by decide) ?_
          refine z_aload rfl rfl ?_
          refine z_iload rfl rfl ?_
          refine z_iload rfl rfl ?_
          refine z_callVP (As := [_, _]) (v := 0) rfl rfl rfl (Nat.le_of_ble_eq_true rfl) (Nat.le_of_ble_eq_true rfl) (isOne_0 hRr y2.symm yn hp hw hV) ?_
          refine z_if_eqT rfl (by decide) (by decide) ?_
          refine z_pushI (z := (-1)) rfl rfl ?_
          refine z_iret rfl rfl ?_
          refine ⟨?_, ?_⟩
          · first | rfl | exact congrArg (fun v => some (zi v)) (by omega) | (exfalso; omega)
          · exact hr
        · refine z_iload rfl rfl ?_
          refine z_iload rfl rfl ?_
          refine z_icmp_gt rfl (by omega) (by decide) (fun h5 => ?_) (fun h5 => ?_)
          · refine z_pushI (z := 0) rfl rfl ?_
            refine z_bret rfl rfl (by decide) ?_
            show zW _ _ _ _ _ _ _ _ _ _
            refine z_if_eqT rfl (by decide) (by decide) ?_
            refine z_aload rfl rfl ?_
            refine z_iload rfl rfl ?_
            refine z_iload rfl rfl ?_
            refine z_callVP (As := [_, _]) (v := 0) rfl rfl rfl (Nat.le_of_ble_eq_true rfl) (Nat.le_of_ble_eq_true rfl) (isOne_0 hRr y2.symm yn hp hw hV) ?_
            refine z_if_eqT rfl (by decide) (by decide) ?_
            refine z_pushI (z := (-1)) rfl rfl ?_
            refine z_iret rfl rfl ?_
            refine ⟨?_, ?_⟩
            · first | rfl | exact congrArg (fun v => some (zi v)) (by omega) | (exfalso; omega)
            · exact hr
          · refine z_pushI (z := 1) rfl rfl ?_
            refine z_goto rfl ?_
            refine z_bret rfl rfl (by decide) ?_
            show zW _ _ _ _ _ _ _ _ _ _
            refine z_if_eqF rfl (by decide) (by decide) ?_
            refine z_aload rfl rfl ?_
            refine z_iload rfl rfl ?_
            refine z_callVi (As := [_]) (le := [some _, some _]) rfl rfl rfl (Nat.le_of_ble_eq_true rfl) (Nat.le_of_ble_eq_true rfl) rfl ?_
            refine z_iload rfl rfl ?_
            refine z_pushI (z := 0) rfl rfl ?_
            refine z_aload rfl rfl ?_
            refine z_getI (v := J 50 1) rfl rfl (rfl) ?_
            refine z_pushI (z := 1) rfl rfl ?_
            refine z_isub (e := (J 50 1) - 1) rfl rfl ?_
            refine z_callSi (As := [_, _, _]) (le := [some _, some _, some _]) rfl rfl (Nat.le_of_ble_eq_true rfl) (Nat.le_of_ble_eq_true rfl) rfl ?_
            refine z_iload rfl rfl ?_
            refine z_iload rfl rfl ?_
            refine z_icmp_lt rfl (by omega) (by decide) (fun h6 => ?_) (fun h6 => ?_)
            · refine z_pushI (z := 0) rfl rfl ?_
              refine z_bret rfl rfl (by decide) ?_
              show zW _ _ _ _ _ _ _ _ _ _
              refine z_bret rfl rfl (by decide) ?_
              show zW _ _ _ _ _ _ _ _ _ _
              refine z_if_neF rfl (by decide) (by decide) ?_
              refine z_pushI (z := (-1)) rfl rfl ?_
              refine z_goto rfl ?_
              refine z_iret rfl rfl ?_
              refine ⟨?_, ?_⟩
              · first | rfl | exact congrArg (fun v => some (zi v)) (by omega) | (exfalso; omega)
              · exact hr
            · refine z_iload rfl rfl ?_
              refine z_iload rfl rfl ?_
              refine z_icmp_gt rfl (by omega) (by omega) (fun h7 => ?_) (fun h7 => ?_)
              · refine z_pushI (z := 0) rfl rfl ?_
                refine z_bret rfl rfl (by decide) ?_
                show zW _ _ _ _ _ _ _ _ _ _
                refine z_bret rfl rfl (by decide) ?_
                show zW _ _ _ _ _ _ _ _ _ _
                refine z_if_neF rfl (by decide) (by decide) ?_
                refine z_pushI (z := (-1)) rfl rfl ?_
                refine z_goto rfl ?_
                refine z_iret rfl rfl ?_
                refine ⟨?_, ?_⟩
                · first | rfl | exact congrArg (fun v => some (zi v)) (by omega) | (exfalso; omega)
                · exact hr
              · refine z_pushI (z := 1) rfl rfl ?_
                refine z_goto rfl ?_
                refine z_bret rfl rfl (by decide) ?_
                show zW _ _ _ _ _ _ _ _ _ _
                refine z_bret rfl rfl (by decide) ?_
                show zW _ _ _ _ _ _ _ _ _ _
                refine z_if_neT rfl (by decide) (by decide) ?_
                refine z_iload rfl rfl ?_
                refine z_pushI (z := 14) rfl rfl ?_
                refine z_icmp_ne rfl (by omega) (by decide) (fun h8 => ?_) (fun h8 => ?_)
                · refine z_aload rfl rfl ?_
                  refine z_getR (r := 76) rfl rfl (hRr _ rm_50_43 (by decide)) ?_
                  refine z_iload rfl rfl ?_
                  refine z_iald (v := J 76 p) rfl rfl (by decide) (by omega) (rfl) ?_
                  refine z_iret rfl rfl ?_
                  refine ⟨?_, ?_⟩
                  · first | rfl | exact congrArg (fun v => some (zi v)) (by omega) | (exfalso; omega)
                  · exact hr
                · refine z_aload rfl rfl ?_
                  refine z_getR (r := 75) rfl rfl (hRr _ rm_50_42 (by decide)) ?_
                  refine z_iload rfl rfl ?_
                  refine z_iald (v := J 75 p) rfl rfl (by decide) (by omega) (rfl) ?_
                  refine z_goto rfl ?_
                  refine z_iret rfl rfl ?_
                  refine ⟨?_, ?_⟩
                  · first | rfl | exact congrArg (fun v => some (zi v)) (by omega) | (exfalso; omega)
                  · exact hr
      · refine z_pushI (z := 1) rfl rfl ?_
        refine z_goto rfl ?_
        refine z_bret rfl rfl (by decide) ?_
        show zW _ _ _ _ _ _ _ _ _ _
        refine z_if_neT rfl (by decide) (by decide) ?_
        refine z_iload rfl rfl ?_
        refine z_pushI (z := 14) rfl rfl ?_
        refine z_icmp_ne rfl (by omega) (by decide) (fun h4 => ?_) (fun h4 => ?_)
        · refine z_aload rfl rfl ?_
          refine z_getR (r := 23) rfl rfl (hR _ rm_0_6) ?_
          refine z_getR (r := 25) rfl rfl (hR _ rm_23_2) ?_
          refine z_iload rfl rfl ?_
          refine z_iald (v := J 25 p) rfl rfl (by decide) (by omega) (rfl) ?_
          refine z_iret rfl rfl ?_
          refine ⟨_, rfl, ?_⟩
          show zW _ _ _ _ [some (.ref 50), some (zi p), some (zi w)] _ _ _ _ _
          refine z_iload rfl rfl ?_
          refine z_pushI (z := 14) rfl rfl ?_
          refine z_pushI (z := 15) rfl rfl ?_
          refine z_callSi (As := [_, _, _]) (le := [some _, some _, some _]) rfl rfl (Nat.le_of_ble_eq_true rfl) (Nat.le_of_ble_eq_true rfl) rfl ?_
          refine z_iload rfl rfl ?_
          refine z_iload rfl rfl ?_
          refine z_icmp_lt rfl (by omega) (by decide) (fun h5 => ?_) (fun h5 => ?_)
          · refine z_pushI (z := 0) rfl rfl ?_
            refine z_bret rfl rfl (by decide) ?_
            show zW _ _ _ _ _ _ _ _ _ _
            refine z_if_eqT rfl (by decide) (by decide) ?_
            refine z_aload rfl rfl ?_
            refine z_iload rfl rfl ?_
            refine z_iload rfl rfl ?_
            refine z_callVP (As := [_, _]) (v := 0) rfl rfl rfl (Nat.le_of_ble_eq_true rfl) (Nat.le_of_ble_eq_true rfl) (isOne_0 hRr y2.symm yn hp hw hV) ?_
            refine z_if_eqT rfl (by decide) (by decide) ?_
            refine z_pushI (z := (-1)) rfl rfl ?_
            refine z_iret rfl rfl ?_
            refine ⟨?_, ?_⟩
            · first | rfl | exact congrArg (fun v => some (zi v)) (by omega) | (exfalso; omega)
            · exact hr
          · refine z_iload rfl rfl ?_
            refine z_iload rfl rfl ?_
            refine z_icmp_gt rfl (by omega) (by decide) (fun h6 => ?_) (fun h6 => ?_)
            · refine z_pushI (z := 0) rfl rfl ?_
              refine z_bret rfl rfl (by decide) ?_
              show zW _ _ _ _ _ _ _ _ _ _
              refine z_if_eqT rfl (by decide) (by decide) ?_
              refine z_aload rfl rfl ?_
              refine z_iload rfl rfl ?_
              refine z_iload rfl rfl ?_
              refine z_callVP (As := [_, _]) (v := 0) rfl rfl rfl (Nat.le_of_ble_eq_true rfl) (Nat.le_of_ble_eq_true rfl) (isOne_0 hRr y2.symm yn hp hw hV) ?_
              refine z_if_eqT rfl (by decide) (by decide) ?_
              refine z_pushI (z := (-1)) rfl rfl ?_
              refine z_iret rfl rfl ?_
              refine ⟨?_, ?_⟩
              · first | rfl | exact congrArg (fun v => some (zi v)) (by omega) | (exfalso; omega)
              · exact hr
            · refine z_pushI (z := 1) rfl rfl ?_
              refine z_goto rfl ?_
              refine z_bret rfl rfl (by decide) ?_
              show zW _ _ _ _ _ _ _ _ _ _
              refine z_if_eqF rfl (by decide) (by decide) ?_
              refine z_aload rfl rfl ?_
              refine z_iload rfl rfl ?_
              refine z_callVi (As := [_]) (le := [some _, some _]) rfl rfl rfl (Nat.le_of_ble_eq_true rfl) (Nat.le_of_ble_eq_true rfl) rfl ?_
              refine z_iload rfl rfl ?_
              refine z_pushI (z := 0) rfl rfl ?_
              refine z_aload rfl rfl ?_
              refine z_getI (v := J 50 1) rfl rfl (rfl) ?_
              refine z_pushI (z := 1) rfl rfl ?_
              refine z_isub (e := (J 50 1) - 1) rfl rfl ?_
              refine z_callSi (As := [_, _, _]) (le := [some _, some _, some _]) rfl rfl (Nat.le_of_ble_eq_true rfl) (Nat.le_of_ble_eq_true rfl) rfl ?_
              refine z_iload rfl rfl ?_
              refine z_iload rfl rfl ?_
              refine z_icmp_lt rfl (by omega) (by decide) (fun h7 => ?_) (fun h7 => ?_)
              · refine z_pushI (z := 0) rfl rfl ?_
                refine z_bret rfl rfl (by decide) ?_
                show zW _ _ _ _ _ _ _ _ _ _
                refine z_bret rfl rfl (by decide) ?_
                show zW _ _ _ _ _ _ _ _ _ _
                refine z_if_neF rfl (by decide) (by decide) ?_
                refine z_pushI (z := (-1)) rfl rfl ?_
                refine z_goto rfl ?_
                refine z_iret rfl rfl ?_
                refine ⟨?_, ?_⟩
                · first | rfl | exact congrArg (fun v => some (zi v)) (by omega) | (exfalso; omega)
                · exact hr
              · refine z_iload rfl rfl ?_
                refine z_iload rfl rfl ?_
                refine z_icmp_gt rfl (by omega) (by omega) (fun h8 => ?_) (fun h8 => ?_)
                · refine z_pushI (z := 0) rfl rfl ?_
                  refine z_bret rfl rfl (by decide) ?_
                  show zW _ _ _ _ _ _ _ _ _ _
                  refine z_bret rfl rfl (by decide) ?_
                  show zW _ _ _ _ _ _ _ _ _ _
                  refine z_if_neF rfl (by decide) (by decide) ?_
                  refine z_pushI (z := (-1)) rfl rfl ?_
                  refine z_goto rfl ?_
                  refine z_iret rfl rfl ?_
                  refine ⟨?_, ?_⟩
                  · first | rfl | exact congrArg (fun v => some (zi v)) (by omega) | (exfalso; omega)
                  · exact hr
                · refine z_pushI (z := 1) rfl rfl ?_
                  refine z_goto rfl ?_
                  refine z_bret rfl rfl (by decide) ?_
                  show zW _ _ _ _ _ _ _ _ _ _
                  refine z_bret rfl rfl (by decide) ?_
                  show zW _ _ _ _ _ _ _ _ _ _
                  refine z_if_neT rfl (by decide) (by decide) ?_
                  refine z_iload rfl rfl ?_
                  refine z_pushI (z := 14) rfl rfl ?_
                  refine z_icmp_ne rfl (by omega) (by decide) (fun h9 => ?_) (fun h9 => ?_)
                  · refine z_aload rfl rfl ?_
                    refine z_getR (r := 76) rfl rfl (hRr _ rm_50_43 (by decide)) ?_
                    refine z_iload rfl rfl ?_
                    refine z_iald (v := J 76 p) rfl rfl (by decide) (by omega) (rfl) ?_
                    refine z_iret rfl rfl ?_
                    refine ⟨?_, ?_⟩
                    · first | rfl | exact congrArg (fun v => some (zi v)) (by omega) | (exfalso; omega)
                    · exact hr
                  · refine z_aload rfl rfl ?_
                    refine z_getR (r := 75) rfl rfl (hRr _ rm_50_42 (by decide)) ?_
                    refine z_iload rfl rfl ?_
                    refine z_iald (v := J 75 p) rfl rfl (by decide) (by omega) (rfl) ?_
                    refine z_goto rfl ?_
                    refine z_iret rfl rfl ?_
                    refine ⟨?_, ?_⟩
                    · first | rfl | exact congrArg (fun v => some (zi v)) (by omega) | (exfalso; omega)
                    · exact hr
        · refine z_aload rfl rfl ?_
          refine z_getR (r := 23) rfl rfl (hR _ rm_0_6) ?_
          refine z_getR (r := 24) rfl rfl (hR _ rm_23_1) ?_
          refine z_iload rfl rfl ?_
          refine z_iald (v := J 24 p) rfl rfl (by decide) (by omega) (rfl) ?_
          refine z_goto rfl ?_
          refine z_iret rfl rfl ?_
          refine ⟨_, rfl, ?_⟩
          show zW _ _ _ _ [some (.ref 50), some (zi p), some (zi w)] _ _ _ _ _
          refine z_iload rfl rfl ?_
          refine z_pushI (z := 14) rfl rfl ?_
          refine z_pushI (z := 15) rfl rfl ?_
          refine z_callSi (As := [_, _, _]) (le := [some _, some _, some _]) rfl rfl (Nat.le_of_ble_eq_true rfl) (Nat.le_of_ble_eq_true rfl) rfl ?_
          refine z_iload rfl rfl ?_
          refine z_iload rfl rfl ?_
          refine z_icmp_lt rfl (by omega) (by decide) (fun h5 => ?_) (fun h5 => ?_)
          · refine z_pushI (z := 0) rfl rfl ?_
            refine z_bret rfl rfl (by decide) ?_
            show zW _ _ _ _ _ _ _ _ _ _
            refine z_if_eqT rfl (by decide) (by decide) ?_
            refine z_aload rfl rfl ?_
            refine z_iload rfl rfl ?_
            refine z_iload rfl rfl ?_
            refine z_callVP (As := [_, _]) (v := 0) rfl rfl rfl (Nat.le_of_ble_eq_true rfl) (Nat.le_of_ble_eq_true rfl) (isOne_0 hRr y2.symm yn hp hw hV) ?_
            refine z_if_eqT rfl (by decide) (by decide) ?_
            refine z_pushI (z := (-1)) rfl rfl ?_
            refine z_iret rfl rfl ?_
            refine ⟨?_, ?_⟩
            · first | rfl | exact congrArg (fun v => some (zi v)) (by omega) | (exfalso; omega)
            · exact hr
          · refine z_iload rfl rfl ?_
            refine z_iload rfl rfl ?_
            refine z_icmp_gt rfl (by omega) (by decide) (fun h6 => ?_) (fun h6 => ?_)
            · refine z_pushI (z := 0) rfl rfl ?_
              refine z_bret rfl rfl (by decide) ?_
              show zW _ _ _ _ _ _ _ _ _ _
              refine z_if_eqT rfl (by decide) (by decide) ?_
              refine z_aload rfl rfl ?_
              refine z_iload rfl rfl ?_
              refine z_iload rfl rfl ?_
              refine z_callVP (As := [_, _]) (v := 0) rfl rfl rfl (Nat.le_of_ble_eq_true rfl) (Nat.le_of_ble_eq_true rfl) (isOne_0 hRr y2.symm yn hp hw hV) ?_
              refine z_if_eqT rfl (by decide) (by decide) ?_
              refine z_pushI (z := (-1)) rfl rfl ?_
              refine z_iret rfl rfl ?_
              refine ⟨?_, ?_⟩
              · first | rfl | exact congrArg (fun v => some (zi v)) (by omega) | (exfalso; omega)
              · exact hr
            · refine z_pushI (z := 1) rfl rfl ?_
              refine z_goto rfl ?_
              refine z_bret rfl rfl (by decide) ?_
              show zW _ _ _ _ _ _ _ _ _ _
              refine z_if_eqF rfl (by decide) (by decide) ?_
              refine z_aload rfl rfl ?_
              refine z_iload rfl rfl ?_
              refine z_callVi (As := [_]) (le := [some _, some _]) rfl rfl rfl (Nat.le_of_ble_eq_true rfl) (Nat.le_of_ble_eq_true rfl) rfl ?_
              refine z_iload rfl rfl ?_
              refine z_pushI (z := 0) rfl rfl ?_
              refine z_aload rfl rfl ?_
              refine z_getI (v := J 50 1) rfl rfl (rfl) ?_
              refine z_pushI (z := 1) rfl rfl ?_
              refine z_isub (e := (J 50 1) - 1) rfl rfl ?_
              refine z_callSi (As := [_, _, _]) (le := [some _, some _, some _]) rfl rfl (Nat.le_of_ble_eq_true rfl) (Nat.le_of_ble_eq_true rfl) rfl ?_
              refine z_iload rfl rfl ?_
              refine z_iload rfl rfl ?_
              refine z_icmp_lt rfl (by omega) (by decide) (fun h7 => ?_) (fun h7 => ?_)
              · refine z_pushI (z := 0) rfl rfl ?_
                refine z_bret rfl rfl (by decide) ?_
                show zW _ _ _ _ _ _ _ _ _ _
                refine z_bret rfl rfl (by decide) ?_
                show zW _ _ _ _ _ _ _ _ _ _
                refine z_if_neF rfl (by decide) (by decide) ?_
                refine z_pushI (z := (-1)) rfl rfl ?_
                refine z_goto rfl ?_
                refine z_iret rfl rfl ?_
                refine ⟨?_, ?_⟩
                · first | rfl | exact congrArg (fun v => some (zi v)) (by omega) | (exfalso; omega)
                · exact hr
              · refine z_iload rfl rfl ?_
                refine z_iload rfl rfl ?_
                refine z_icmp_gt rfl (by omega) (by omega) (fun h8 => ?_) (fun h8 => ?_)
                · refine z_pushI (z := 0) rfl rfl ?_
                  refine z_bret rfl rfl (by decide) ?_
                  show zW _ _ _ _ _ _ _ _ _ _
                  refine z_bret rfl rfl (by decide) ?_
                  show zW _ _ _ _ _ _ _ _ _ _
                  refine z_if_neF rfl (by decide) (by decide) ?_
                  refine z_pushI (z := (-1)) rfl rfl ?_
                  refine z_goto rfl ?_
                  refine z_iret rfl rfl ?_
                  refine ⟨?_, ?_⟩
                  · first | rfl | exact congrArg (fun v => some (zi v)) (by omega) | (exfalso; omega)
                  · exact hr
                · refine z_pushI (z := 1) rfl rfl ?_
                  refine z_goto rfl ?_
                  refine z_bret rfl rfl (by decide) ?_
                  show zW _ _ _ _ _ _ _ _ _ _
                  refine z_bret rfl rfl (by decide) ?_
                  show zW _ _ _ _ _ _ _ _ _ _
                  refine z_if_neT rfl (by decide) (by decide) ?_
                  refine z_iload rfl rfl ?_
                  refine z_pushI (z := 14) rfl rfl ?_
                  refine z_icmp_ne rfl (by omega) (by decide) (fun h9 => ?_) (fun h9 => ?_)
                  · refine z_aload rfl rfl ?_
                    refine z_getR (r := 76) rfl rfl (hRr _ rm_50_43 (by decide)) ?_
                    refine z_iload rfl rfl ?_
                    refine z_iald (v := J 76 p) rfl rfl (by decide) (by omega) (rfl) ?_
                    refine z_iret rfl rfl ?_
                    refine ⟨?_, ?_⟩
                    · first | rfl | exact congrArg (fun v => some (zi v)) (by omega) | (exfalso; omega)
                    · exact hr
                  · refine z_aload rfl rfl ?_
                    refine z_getR (r := 75) rfl rfl (hRr _ rm_50_42 (by decide)) ?_
                    refine z_iload rfl rfl ?_
                    refine z_iald (v := J 75 p) rfl rfl (by decide) (by omega) (rfl) ?_
                    refine z_goto rfl ?_
                    refine z_iret rfl rfl ?_
                    refine ⟨?_, ?_⟩
                    · first | rfl | exact congrArg (fun v => some (zi v)) (by omega) | (exfalso; omega)
                    · exact hr
  · refine z_iload rfl rfl ?_
    refine z_pushI (z := 15) rfl rfl ?_
    refine z_icmp_ne rfl (by omega) (by decide) (fun h5 => ?_) (fun h5 => ?_)
    · refine z_aload rfl rfl ?_
      refine z_getR (r := 8) rfl rfl (hR _ rm_0_1) ?_
      refine z_iload rfl rfl ?_
      refine z_iload rfl rfl ?_
      refine z_callVP (As := [_, _]) (v := 0) rfl rfl rfl (Nat.le_of_ble_eq_true rfl) (Nat.le_of_ble_eq_true rfl) (isNumber_0 hR rfl yn hp hw hV) ?_
      refine z_if_eqT rfl (by decide) (by decide) ?_
      refine z_pushI (z := (-1)) rfl rfl ?_
      refine z_iret rfl rfl ?_
      refine ⟨_, rfl, ?_⟩
      show zW _ _ _ _ [some (.ref 50), some (zi p), some (zi w)] _ _ _ _ _
      refine z_iload rfl rfl ?_
      refine z_pushI (z := 14) rfl rfl ?_
      refine z_pushI (z := 15) rfl rfl ?_
      refine z_callSi (As := [_, _, _]) (le := [some _, some _, some _]) rfl rfl (Nat.le_of_ble_eq_true rfl) (Nat.le_of_ble_eq_true rfl) rfl ?_
      refine z_iload rfl rfl ?_
      refine z_iload rfl rfl ?_
      refine z_icmp_lt rfl (by omega) (by decide) (fun h6 => ?_) (fun h6 => ?_)
      · refine z_pushI (z := 0) rfl rfl ?_
        refine z_bret rfl rfl (by decide) ?_
        show zW _ _ _ _ _ _ _ _ _ _
        refine z_if_eqT rfl (by decide) (by decide) ?_
        refine z_aload rfl rfl ?_
        refine z_iload rfl rfl ?_
        refine z_iload rfl rfl ?_
        refine z_callVP (As := [_, _]) (v := 0) rfl rfl rfl (Nat.le_of_ble_eq_true rfl) (Nat.le_of_ble_eq_true rfl) (isOne_0 hRr y2.symm yn hp hw hV) ?_
        refine z_if_eqT rfl (by decide) (by decide) ?_
        refine z_pushI (z := (-1)) rfl rfl ?_
        refine z_iret rfl rfl ?_
        refine ⟨?_, ?_⟩
        · first | rfl | exact congrArg (fun v => some (zi v)) (by omega) | (exfalso; omega)
        · exact hr
      · refine z_iload rfl rfl ?_
        refine z_iload rfl rfl ?_
        refine z_icmp_gt rfl (by omega) (by decide) (fun h7 => ?_) (fun h7 => ?_)
        · refine z_pushI (z := 0) rfl rfl ?_
          refine z_bret rfl rfl (by decide) ?_
          show zW _ _ _ _ _ _ _ _ _ _
          refine z_if_eqT rfl (by decide) (by decide) ?_
          refine z_aload rfl rfl ?_
          refine z_iload rfl rfl ?_
          refine z_iload rfl rfl ?_
          refine z_callVP (As := [_, _]) (v := 0) rfl rfl rfl (Nat.le_of_ble_eq_true rfl) (Nat.le_of_ble_eq_true rfl) (isOne_0 hRr y2.symm yn hp hw hV) ?_
          refine z_if_eqT rfl (by decide) (by decide) ?_
          refine z_pushI (z := (-1)) rfl rfl ?_
          refine z_iret rfl rfl ?_
          refine ⟨?_, ?_⟩
          · first | rfl | exact congrArg (fun v => some (zi v)) (by omega) | (exfalso; omega)
          · exact hr
        · refine z_pushI (z := 1) rfl rfl ?_
          refine z_goto rfl ?_
          refine z_bret rfl rfl (by decide) ?_
          show zW _ _ _ _ _ _ _ _ _ _
          refine z_if_eqF rfl (by decide) (by decide) ?_
          refine z_aload rfl rfl ?_
          refine z_iload rfl rfl ?_
          refine z_callVi (As := [_]) (le := [some _, some _]) rfl rfl rfl (Nat.le_of_ble_eq_true rfl) (Nat.le_of_ble_eq_true rfl) rfl ?_
          refine z_iload rfl rfl ?_
          refine z_pushI (z := 0) rfl rfl ?_
          refine z_aload rfl rfl ?_
          refine z_getI (v := J 50 1) rfl rfl (rfl) ?_
          refine z_pushI (z := 1) rfl rfl ?_
          refine z_isub (e := (J 50 1) - 1) rfl rfl ?_
          refine z_callSi (As := [_, _, _]) (le := [some _, some _, some _]) rfl rfl (Nat.le_of_ble_eq_true rfl) (Nat.le_of_ble_eq_true rfl) rfl ?_
          refine z_iload rfl rfl ?_
          refine z_iload rfl rfl ?_
          refine z_icmp_lt rfl (by omega) (by decide) (fun h8 => ?_) (fun h8 => ?_)
          · refine z_pushI (z := 0) rfl rfl ?_
            refine z_bret rfl rfl (by decide) ?_
            show zW _ _ _ _ _ _ _ _ _ _
            refine z_bret rfl rfl (by decide) ?_
            show zW _ _ _ _ _ _ _ _ _ _
            refine z_if_neF rfl (by decide) (by decide) ?_
            refine z_pushI (z := (-1)) rfl rfl ?_
            refine z_goto rfl ?_
            refine z_iret rfl rfl ?_
            refine ⟨?_, ?_⟩
            · first | rfl | exact congrArg (fun v => some (zi v)) (by omega) | (exfalso; omega)
            · exact hr
          · refine z_iload rfl rfl ?_
            refine z_iload rfl rfl ?_
            refine z_icmp_gt rfl (by omega) (by omega) (fun h9 => ?_) (fun h9 => ?_)
            · refine z_pushI (z := 0) rfl rfl ?_
              refine z_bret rfl rfl (by decide) ?_
              show zW _ _ _ _ _ _ _ _ _ _
              refine z_bret rfl rfl (by decide) ?_
              show zW _ _ _ _ _ _ _ _ _ _
              refine z_if_neF rfl (by decide) (by decide) ?_
              refine z_pushI (z := (-1)) rfl rfl ?_
              refine z_goto rfl ?_
              refine z_iret rfl rfl ?_
              refine ⟨?_, ?_⟩
              · first | rfl | exact congrArg (fun v => some (zi v)) (by omega) | (exfalso; omega)
              · exact hr
            · refine z_pushI (z := 1) rfl rfl ?_
              refine z_goto rfl ?_
              refine z_bret rfl rfl (by decide) ?_
              show zW _ _ _ _ _ _ _ _ _ _
              refine z_bret rfl rfl (by decide) ?_
              show zW _ _ _ _ _ _ _ _ _ _
              refine z_if_neT rfl (by decide) (by decide) ?_
              refine z_iload rfl rfl ?_
              refine z_pushI (z := 14) rfl rfl ?_
              refine z_icmp_ne rfl (by omega) (by decide) (fun h10 => ?_) (fun h10 => ?_)
              · refine z_aload rfl rfl ?_
                refine z_getR (r := 76) rfl rfl (hRr _ rm_50_43 (by decide)) ?_
                refine z_iload rfl rfl ?_
                refine z_iald (v := J 76 p) rfl rfl (by decide) (by omega) (rfl) ?_
                refine z_iret rfl rfl ?_
                refine ⟨?_, ?_⟩
                · first | rfl | exact congrArg (fun v => some (zi v)) (by omega) | (exfalso; omega)
                · exact hr
              · refine z_aload rfl rfl ?_
                refine z_getR (r := 75) rfl rfl (hRr _ rm_50_42 (by decide)) ?_
                refine z_iload rfl rfl ?_
                refine z_iald (v := J 75 p) rfl rfl (by decide) (by omega) (rfl) ?_
                refine z_goto rfl ?_
                refine z_iret rfl rfl ?_
                refine ⟨?_, ?_⟩
                · first | rfl | exact congrArg (fun v => some (zi v)) (by omega) | (exfalso; omega)
                · exact hr
    · refine z_aload rfl rfl ?_
      refine z_getR (r := 8) rfl rfl (hR _ rm_0_1) ?_
      refine z_iload rfl rfl ?_
      refine z_callVi (As := [_]) (le := [some _, some _]) rfl rfl rfl (Nat.le_of_ble_eq_true rfl) (Nat.le_of_ble_eq_true rfl) rfl ?_
      refine z_iload rfl rfl ?_
      refine z_if_lt rfl (by omega) (fun h6 => ?_) (fun h6 => ?_)
      · refine z_pushI (z := 0) rfl rfl ?_
        refine z_bret rfl rfl (by decide) ?_
        show zW _ _ _ _ _ _ _ _ _ _
        refine z_if_neF rfl (by decide) (by decide) ?_
        refine z_pushI (z := (-1)) rfl rfl ?_
        refine z_iret rfl rfl ?_
        refine ⟨_, rfl, ?_⟩
        show zW _ _ _ _ [some (.ref 50), some (zi p), some (zi w)] _ _ _ _ _
        refine z_iload rfl rfl ?_
        refine z_pushI (z := 14) rfl rfl ?_
        refine z_pushI (z := 15) rfl rfl ?_
        refine z_callSi (As := [_, _, _]) (le := [some _, some _, some _]) rfl rfl (Nat.le_of_ble_eq_true rfl) (Nat.le_of_ble_eq_true rfl) rfl ?_
        refine z_iload rfl rfl ?_
        refine z_iload rfl rfl ?_
        refine z_icmp_lt rfl (by omega) (by decide) (fun h7 => ?_) (fun h7 => ?_)
        · refine z_pushI (z := 0) rfl rfl ?_
          refine z_bret rfl rfl (by decide) ?_
          show zW _ _ _ _ _ _ _ _ _ _
          refine z_if_eqT rfl (by decide) (by decide) ?_
          refine z_aload rfl rfl ?_
          refine z_iload rfl rfl ?_
          refine z_iload rfl rfl ?_
          refine z_callVP (As := [_, _]) (v := 0) rfl rfl rfl (Nat.le_of_ble_eq_true rfl) (Nat.le_of_ble_eq_true rfl) (isOne_0 hRr y2.symm yn hp hw hV) ?_
          refine z_if_eqT rfl (by decide) (by decide) ?_
          refine z_pushI (z := (-1)) rfl rfl ?_
          refine z_iret rfl rfl ?_
          refine ⟨?_, ?_⟩
          · first | rfl | exact congrArg (fun v => some (zi v)) (by omega) | (exfalso; omega)
          · exact hr
        · refine z_iload rfl rfl ?_
          refine z_iload rfl rfl ?_
          refine z_icmp_gt rfl (by omega) (by decide) (fun h8 => ?_) (fun h8 => ?_)
          · refine z_pushI (z := 0) rfl rfl ?_
            refine z_bret rfl rfl (by decide) ?_
            show zW _ _ _ _ _ _ _ _ _ _
            refine z_if_eqT rfl (by decide) (by decide) ?_
            refine z_aload rfl rfl ?_
            refine z_iload rfl rfl ?_
            refine z_iload rfl rfl ?_
            refine z_callVP (As := [_, _]) (v := 0) rfl rfl rfl (Nat.le_of_ble_eq_true rfl) (Nat.le_of_ble_eq_true rfl) (isOne_0 hRr y2.symm yn hp hw hV) ?_
            refine z_if_eqT rfl (by decide) (by decide) ?_
            refine z_pushI (z := (-1)) rfl rfl ?_
            refine z_iret rfl rfl ?_
            refine ⟨?_, ?_⟩
            · first | rfl | exact congrArg (fun v => some (zi v)) (by omega) | (exfalso; omega)
            · exact hr
          · refine z_pushI (z := 1) rfl rfl ?_
            refine z_goto rfl ?_
            refine z_bret rfl rfl (by decide) ?_
            show zW _ _ _ _ _ _ _ _ _ _
            refine z_if_eqF rfl (by decide) (by decide) ?_
            refine z_aload rfl rfl ?_
            refine z_iload rfl rfl ?_
            refine z_callVi (As := [_]) (le := [some _, some _]) rfl rfl rfl (Nat.le_of_ble_eq_true rfl) (Nat.le_of_ble_eq_true rfl) rfl ?_
            refine z_iload rfl rfl ?_
            refine z_pushI (z := 0) rfl rfl ?_
            refine z_aload rfl rfl ?_
            refine z_getI (v := J 50 1) rfl rfl (rfl) ?_
            refine z_pushI (z := 1) rfl rfl ?_
            refine z_isub (e := (J 50 1) - 1) rfl rfl ?_
            refine z_callSi (As := [_, _, _]) (le := [some _, some _, some _]) rfl rfl (Nat.le_of_ble_eq_true rfl) (Nat.le_of_ble_eq_true rfl) rfl ?_
            refine z_iload rfl rfl ?_
            refine z_iload rfl rfl ?_
            refine z_icmp_lt rfl (by omega) (by decide) (fun h9 => ?_) (fun h9 => ?_)
            · refine z_pushI (z := 0) rfl rfl ?_
              refine z_bret rfl rfl (by decide) ?_
              show zW _ _ _ _ _ _ _ _ _ _
              refine z_bret rfl rfl (by decide) ?_
              show zW _ _ _ _ _ _ _ _ _ _
              refine z_if_neF rfl (by decide) (by decide) ?_
              refine z_pushI (z := (-1)) rfl rfl ?_
              refine z_goto rfl ?_
              refine z_iret rfl rfl ?_
              refine ⟨?_, ?_⟩
              · first | rfl | exact congrArg (fun v => some (zi v)) (by omega) | (exfalso; omega)
              · exact hr
            · refine z_iload rfl rfl ?_
              refine z_iload rfl rfl ?_
              refine z_icmp_gt rfl (by omega) (by omega) (fun h10 => ?_) (fun h10 => ?_)
              · refine z_pushI (z := 0) rfl rfl ?_
                refine z_bret rfl rfl (by decide) ?_
                show zW _ _ _ _ _ _ _ _ _ _
                refine z_bret rfl rfl (by decide) ?_
                show zW _ _ _ _ _ _ _ _ _ _
                refine z_if_neF rfl (by decide) (by decide) ?_
                refine z_pushI (z := (-1)) rfl rfl ?_
                refine z_goto rfl ?_
                refine z_iret rfl rfl ?_
                refine ⟨?_, ?_⟩
                · first | rfl | exact congrArg (fun v => some (zi v)) (by omega) | (exfalso; omega)
                · exact hr
              · refine z_pushI (z := 1) rfl rfl ?_
                refine z_goto rfl ?_
                refine z_bret rfl rfl (by decide) ?_
                show zW _ _ _ _ _ _ _ _ _ _
                refine z_bret rfl rfl (by decide) ?_
                show zW _ _ _ _ _ _ _ _ _ _
                refine z_if_neT rfl (by decide) (by decide) ?_
                refine z_iload rfl rfl ?_
                refine z_pushI (z := 14) rfl rfl ?_
                refine z_icmp_ne rfl (by omega) (by decide) (fun h11 => ?_) (fun h11 => ?_)
                · refine z_aload rfl rfl ?_
                  refine z_getR (r := 76) rfl rfl (hRr _ rm_50_43 (by decide)) ?_
                  refine z_iload rfl rfl ?_
                  refine z_iald (v := J 76 p) rfl rfl (by decide) (by omega) (rfl) ?_
                  refine z_iret rfl rfl ?_
                  refine ⟨?_, ?_⟩
                  · first | rfl | exact congrArg (fun v => some (zi v)) (by omega) | (exfalso; omega)
                  · exact hr
                · refine z_aload rfl rfl ?_
                  refine z_getR (r := 75) rfl rfl (hRr _ rm_50_42 (by decide)) ?_
                  refine z_iload rfl rfl ?_
                  refine z_iald (v := J 75 p) rfl rfl (by decide) (by omega) (rfl) ?_
                  refine z_goto rfl ?_
                  refine z_iret rfl rfl ?_
                  refine ⟨?_, ?_⟩
                  · first | rfl | exact congrArg (fun v => some (zi v)) (by omega) | (exfalso; omega)
                  · exact hr
      · refine z_iload rfl rfl ?_
        refine z_aload rfl rfl ?_
        refine z_getI (v := J 8 2) rfl rfl (rfl) ?_
        refine z_icmp_ge rfl (by omega) (by omega) (fun h7 => ?_) (fun h7 => ?_)
        · refine z_pushI (z := 0) rfl rfl ?_
          refine z_bret rfl rfl (by decide) ?_
          show zW _ _ _ _ _ _ _ _ _ _
          refine z_if_neF rfl (by decide) (by decide) ?_
          refine z_pushI (z := (-1)) rfl rfl ?_
          refine z_iret rfl rfl ?_
          refine ⟨_, rfl, ?_⟩
          show zW _ _ _ _ [some (.ref 50), some (zi p), some (zi w)] _ _ _ _ _
          refine z_iload rfl rfl ?_
          refine z_pushI (z := 14) rfl rfl ?_
          refine z_pushI (z := 15) rfl rfl ?_
          refine z_callSi (As := [_, _, _]) (le := [some _, some _, some _]) rfl rfl (Nat.le_of_ble_eq_true rfl) (Nat.le_of_ble_eq_true rfl) rfl ?_
          refine z_iload rfl rfl ?_
          refine z_iload rfl rfl ?_
          refine z_icmp_lt rfl (by omega) (by decide) (fun h8 => ?_) (fun h8 => ?_)
          · refine z_pushI (z := 0) rfl rfl ?_
            refine z_bret rfl rfl (by decide) ?_
            show zW _ _ _ _ _ _ _ _ _ _
            refine z_if_eqT rfl (by decide) (by decide) ?_
            refine z_aload rfl rfl ?_
            refine z_iload rfl rfl ?_
            refine z_iload rfl rfl ?_
            refine z_callVP (As := [_, _]) (v := 0) rfl rfl rfl (Nat.le_of_ble_eq_true rfl) (Nat.le_of_ble_eq_true rfl) (isOne_0 hRr y2.symm yn hp hw hV) ?_
            refine z_if_eqT rfl (by decide) (by decide) ?_
            refine z_pushI (z := (-1)) rfl rfl ?_
            refine z_iret rfl rfl ?_
            refine ⟨?_, ?_⟩
            · first | rfl | exact congrArg (fun v => some (zi v)) (by omega) | (exfalso; omega)
            · exact hr
          · refine z_iload rfl rfl ?_
            refine z_iload rfl rfl ?_
            refine z_icmp_gt rfl (by omega) (by decide) (fun h9 => ?_) (fun h9 => ?_)
            · refine z_pushI (z := 0) rfl rfl ?_
              refine z_bret rfl rfl (by decide) ?_
              show zW _ _ _ _ _ _ _ _ _ _
              refine z_if_eqT rfl (by decide) (by decide) ?_
              refine z_aload rfl rfl ?_
              refine z_iload rfl rfl ?_
              refine z_iload rfl rfl ?_
              refine z_callVP (As := [_, _]) (v := 0) rfl rfl rfl (Nat.le_of_ble_eq_true rfl) (Nat.le_of_ble_eq_true rfl) (isOne_0 hRr y2.symm yn hp hw hV) ?_
              refine z_if_eqT rfl (by decide) (by decide) ?_
              refine z_pushI (z := (-1)) rfl rfl ?_
              refine z_iret rfl rfl ?_
              refine ⟨?_, ?_⟩
              · first | rfl | exact congrArg (fun v => some (zi v)) (by omega) | (exfalso; omega)
              · exact hr
            · refine z_pushI (z := 1) rfl rfl ?_
              refine z_goto rfl ?_
              refine z_bret rfl rfl (by decide) ?_
              show zW _ _ _ _ _ _ _ _ _ _
              refine z_if_eqF rfl (by decide) (by decide) ?_
              refine z_aload rfl rfl ?_
              refine z_iload rfl rfl ?_
              refine z_callVi (As := [_]) (le := [some _, some _]) rfl rfl rfl (Nat.le_of_ble_eq_true rfl) (Nat.le_of_ble_eq_true rfl) rfl ?_
              refine z_iload rfl rfl ?_
              refine z_pushI (z := 0) rfl rfl ?_
              refine z_aload rfl rfl ?_
              refine z_getI (v := J 50 1) rfl rfl (rfl) ?_
              refine z_pushI (z := 1) rfl rfl ?_
              refine z_isub (e := (J 50 1) - 1) rfl rfl ?_
              refine z_callSi (As := [_, _, _]) (le := [some _, some _, some _]) rfl rfl (Nat.le_of_ble_eq_true rfl) (Nat.le_of_ble_eq_true rfl) rfl ?_
              refine z_iload rfl rfl ?_
              refine z_iload rfl rfl ?_
              refine z_icmp_lt rfl (by omega) (by decide) (fun h10 => ?_) (fun h10 => ?_)
              · refine z_pushI (z := 0) rfl rfl ?_
                refine z_bret rfl rfl (by decide) ?_
                show zW _ _ _ _ _ _ _ _ _ _
                refine z_bret rfl rfl (by decide) ?_
                show zW _ _ _ _ _ _ _ _ _ _
                refine z_if_neF rfl (by decide) (by decide) ?_
                refine z_pushI (z := (-1)) rfl rfl ?_
                refine z_goto rfl ?_
                refine z_iret rfl rfl ?_
                refine ⟨?_, ?_⟩
                · first | rfl | exact congrArg (fun v => some (zi v)) (by omega) | (exfalso; omega)
                · exact hr
              · refine z_iload rfl rfl ?_
                refine z_iload rfl rfl ?_
                refine z_icmp_gt rfl (by omega) (by omega) (fun h11 => ?_) (fun h11 => ?_)
                · refine z_pushI (z := 0) rfl rfl ?_
                  refine z_bret rfl rfl (by decide) ?_
                  show zW _ _ _ _ _ _ _ _ _ _
                  refine z_bret rfl rfl (by decide) ?_
                  show zW _ _ _ _ _ _ _ _ _ _
                  refine z_if_neF rfl (by decide) (by decide) ?_
                  refine z_pushI (z := (-1)) rfl rfl ?_
                  refine z_goto rfl ?_
                  refine z_iret rfl rfl ?_
                  refine ⟨?_, ?_⟩
                  · first | rfl | exact congrArg (fun v => some (zi v)) (by omega) | (exfalso; omega)
                  · exact hr
                · refine z_pushI (z := 1) rfl rfl ?_
                  refine z_goto rfl ?_
                  refine z_bret rfl rfl (by decide) ?_
                  show zW _ _ _ _ _ _ _ _ _ _
                  refine z_bret rfl rfl (by decide) ?_
                  show zW _ _ _ _ _ _ _ _ _ _
                  refine z_if_neT rfl (by decide) (by decide) ?_
                  refine z_iload rfl rfl ?_
                  refine z_pushI (z := 14) rfl rfl ?_
                  refine z_icmp_ne rfl (by omega) (by decide) (fun h12 => ?_) (fun h12 => ?_)
                  · refine z_aload rfl rfl ?_
                    refine z_getR (r := 76) rfl rfl (hRr _ rm_50_43 (by decide)) ?_
                    refine z_iload rfl rfl ?_
                    refine z_iald (v := J 76 p) rfl rfl (by decide) (by omega) (rfl) ?_
                    refine z_iret rfl rfl ?_
                    refine ⟨?_, ?_⟩
                    · first | rfl | exact congrArg (fun v => some (zi v)) (by omega) | (exfalso; omega)
                    · exact hr
                  · refine z_aload rfl rfl ?_
                    refine z_getR (r := 75) rfl rfl (hRr _ rm_50_42 (by decide)) ?_
                    refine z_iload rfl rfl ?_
                    refine z_iald (v := J 75 p) rfl rfl (by decide) (by omega) (rfl) ?_
                    refine z_goto rfl ?_
                    refine z_iret rfl rfl ?_
                    refine ⟨?_, ?_⟩
                    · first | rfl | exact congrArg (fun v => some (zi v)) (by omega) | (exfalso; omega)
                    · exact hr
        · refine z_pushI (z := 1) rfl rfl ?_
          refine z_goto rfl ?_
          refine z_bret rfl rfl (by decide) ?_
          show zW _ _ _ _ _ _ _ _ _ _
          refine z_if_neT rfl (by decide) (by decide) ?_
          refine z_iload rfl rfl ?_
          refine z_pushI (z := 14) rfl rfl ?_
          refine z_icmp_ne rfl (by omega) (by decide) (fun h8 => ?_) (fun h8 => ?_)
          · refine z_aload rfl rfl ?_
            refine z_getR (r := 23) rfl rfl (hR _ rm_0_6) ?_
            refine z_getR (r := 25) rfl rfl (hR _ rm_23_2) ?_
            refine z_iload rfl rfl ?_
            refine z_iald (v := J 25 p) rfl rfl (by decide) (by omega) (rfl) ?_
            refine z_iret rfl rfl ?_
            refine ⟨_, rfl, ?_⟩
            show zW _ _ _ _ [some (.ref 50), some (zi p), some (zi w)] _ _ _ _ _
            refine z_iload rfl rfl ?_
            refine z_pushI (z := 14) rfl rfl ?_
            refine z_pushI (z := 15) rfl rfl ?_
            refine z_callSi (As := [_, _, _]) (le := [some _, some _, some _]) rfl rfl (Nat.le_of_ble_eq_true rfl) (Nat.le_of_ble_eq_true rfl) rfl ?_
            refine z_iload rfl rfl ?_
            refine z_iload rfl rfl ?_
            refine z_icmp_lt rfl (by omega) (by decide) (fun h9 => ?_) (fun h9 => ?_)
            · refine z_pushI (z := 0) rfl rfl ?_
              refine z_bret rfl rfl (by decide) ?_
              show zW _ _ _ _ _ _ _ _ _ _
              refine z_if_eqT rfl (by decide) (by decide) ?_
              refine z_aload rfl rfl ?_
              refine z_iload rfl rfl ?_
              refine z_iload rfl rfl ?_
              refine z_callVP (As := [_, _]) (v := 0) rfl rfl rfl (Nat.le_of_ble_eq_true rfl) (Nat.le_of_ble_eq_true rfl) (isOne_0 hRr y2.symm yn hp hw hV) ?_
              refine z_if_eqT rfl (by decide) (by decide) ?_
              refine z_pushI (z := (-1)) rfl rfl ?_
              refine z_iret rfl rfl ?_
              refine ⟨?_, ?_⟩
              · first | rfl | exact congrArg (fun v => some (zi v)) (by omega) | (exfalso; omega)
              · exact hr
            · refine z_iload rfl rfl ?_
              refine z_iload rfl rfl ?_
              refine z_icmp_gt rfl (by omega) (by decide) (fun h10 => ?_) (fun h10 => ?_)
              · refine z_pushI (z := 0) rfl rfl ?_
                refine z_bret rfl rfl (by decide) ?_
                show zW _ _ _ _ _ _ _ _ _ _
                refine z_if_eqT rfl (by decide) (by decide) ?_
                refine z_aload rfl rfl ?_
                refine z_iload rfl rfl ?_
                refine z_iload rfl rfl ?_
                refine z_callVP (As := [_, _]) (v := 0) rfl rfl rfl (Nat.le_of_ble_eq_true rfl) (Nat.le_of_ble_eq_true rfl) (isOne_0 hRr y2.symm yn hp hw hV) ?_
                refine z_if_eqT rfl (by decide) (by decide) ?_
                refine z_pushI (z := (-1)) rfl rfl ?_
                refine z_iret rfl rfl ?_
                refine ⟨?_, ?_⟩
                · first | rfl | exact congrArg (fun v => some (zi v)) (by omega) | (exfalso; omega)
                · exact hr
              · refine z_pushI (z := 1) rfl rfl ?_
                refine z_goto rfl ?_
                refine z_bret rfl rfl (by decide) ?_
                show zW _ _ _ _ _ _ _ _ _ _
                refine z_if_eqF rfl (by decide) (by decide) ?_
                refine z_aload rfl rfl ?_
                refine z_iload rfl rfl ?_
                refine z_callVi (As := [_]) (le := [some _, some _]) rfl rfl rfl (Nat.le_of_ble_eq_true rfl) (Nat.le_of_ble_eq_true rfl) rfl ?_
                refine z_iload rfl rfl ?_
                refine z_pushI (z := 0) rfl rfl ?_
                refine z_aload rfl rfl ?_
                refine z_getI (v := J 50 1) rfl rfl (rfl) ?_
                refine z_pushI (z := 1) rfl rfl ?_
                refine z_isub (e := (J 50 1) - 1) rfl rfl ?_
                refine z_callSi (As := [_, _, _]) (le := [some _, some _, some _]) rfl rfl (Nat.le_of_ble_eq_true rfl) (Nat.le_of_ble_eq_true rfl) rfl ?_
                refine z_iload rfl rfl ?_
                refine z_iload rfl rfl ?_
                refine z_icmp_lt rfl (by omega) (by decide) (fun h11 => ?_) (fun h11 => ?_)
                · refine z_pushI (z := 0) rfl rfl ?_
                  refine z_bret rfl rfl (by decide) ?_
                  show zW _ _ _ _ _ _ _ _ _ _
                  refine z_bret rfl rfl (by decide) ?_
                  show zW _ _ _ _ _ _ _ _ _ _
                  refine z_if_neF rfl (by decide) (by decide) ?_
                  refine z_pushI (z := (-1)) rfl rfl ?_
                  refine z_goto rfl ?_
                  refine z_iret rfl rfl ?_
                  refine ⟨?_, ?_⟩
                  · first | rfl | exact congrArg (fun v => some (zi v)) (by omega) | (exfalso; omega)
                  · exact hr
                · refine z_iload rfl rfl ?_
                  refine z_iload rfl rfl ?_
                  refine z_icmp_gt rfl (by omega) (by omega) (fun h12 => ?_) (fun h12 => ?_)
                  · refine z_pushI (z := 0) rfl rfl ?_
                    refine z_bret rfl rfl (by decide) ?_
                    show zW _ _ _ _ _ _ _ _ _ _
                    refine z_bret rfl rfl (by decide) ?_
                    show zW _ _ _ _ _ _ _ _ _ _
                    refine z_if_neF rfl (by decide) (by decide) ?_
                    refine z_pushI (z := (-1)) rfl rfl ?_
                    refine z_goto rfl ?_
                    refine z_iret rfl rfl ?_
                    refine ⟨?_, ?_⟩
                    · first | rfl | exact congrArg (fun v => some (zi v)) (by omega) | (exfalso; omega)
                    · exact hr
                  · refine z_pushI (z := 1) rfl rfl ?_
                    refine z_goto rfl ?_
                    refine z_bret rfl rfl (by decide) ?_
                    show zW _ _ _ _ _ _ _ _ _ _
                    refine z_bret rfl rfl (by decide) ?_
                    show zW _ _ _ _ _ _ _ _ _ _
                    refine z_if_neT rfl (by decide) (by decide) ?_
                    refine z_iload rfl rfl ?_
                    refine z_pushI (z := 14) rfl rfl ?_
                    refine z_icmp_ne rfl (by omega) (by decide) (fun h13 => ?_) (fun h13 => ?_)
                    · refine z_aload rfl rfl ?_
                      refine z_getR (r := 76) rfl rfl (hRr _ rm_50_43 (by decide)) ?_
                      refine z_iload rfl rfl ?_
                      refine z_iald (v := J 76 p) rfl rfl (by decide) (by omega) (rfl) ?_
                      refine z_iret rfl rfl ?_
                      refine ⟨?_, ?_⟩
                      · first | rfl | exact congrArg (fun v => some (zi v)) (by omega) | (exfalso; omega)
                      · exact hr
                    · refine z_aload rfl rfl ?_
                      refine z_getR (r := 75) rfl rfl (hRr _ rm_50_42 (by decide)) ?_
                      refine z_iload rfl rfl ?_
                      refine z_iald (v := J 75 p) rfl rfl (by decide) (by omega) (rfl) ?_
                      refine z_goto rfl ?_
                      refine z_iret rfl rfl ?_
                      refine ⟨?_, ?_⟩
                      · first | rfl | exact congrArg (fun v => some (zi v)) (by omega) | (exfalso; omega)
                      · exact hr
          · refine z_aload rfl rfl ?_
            refine z_getR (r := 23) rfl rfl (hR _ rm_0_6) ?_
            refine z_getR (r := 24) rfl rfl (hR _ rm_23_1) ?_
            refine z_iload rfl rfl ?_
            refine z_iald (v := J 24 p) rfl rfl (by decide) (by omega) (rfl) ?_
            refine z_goto rfl ?_
            refine z_iret rfl rfl ?_
            refine ⟨_, rfl, ?_⟩
            show zW _ _ _ _ [some (.ref 50), some (zi p), some (zi w)] _ _ _ _ _
            refine z_iload rfl rfl ?_
            refine z_pushI (z := 14) rfl rfl ?_
            refine z_pushI (z := 15) rfl rfl ?_
            refine z_callSi (As := [_, _, _]) (le := [some _, some _, some _]) rfl rfl (Nat.le_of_ble_eq_true rfl) (Nat.le_of_ble_eq_true rfl) rfl ?_
            refine z_iload rfl rfl ?_
            refine z_iload rfl rfl ?_
            refine z_icmp_lt rfl (by omega) (by decide) (fun h9 => ?_) (fun h9 => ?_)
            · refine z_pushI (z := 0) rfl rfl ?_
              refine z_bret rfl rfl (by decide) ?_
              show zW _ _ _ _ _ _ _ _ _ _
              refine z_if_eqT rfl (by decide) (by decide) ?_
              refine z_aload rfl rfl ?_
              refine z_iload rfl rfl ?_
              refine z_iload rfl rfl ?_
              refine z_callVP (As := [_, _]) (v := 0) rfl rfl rfl (Nat.le_of_ble_eq_true rfl) (Nat.le_of_ble_eq_true rfl) (isOne_0 hRr y2.symm yn hp hw hV) ?_
              refine z_if_eqT rfl (by decide) (by decide) ?_
              refine z_pushI (z := (-1)) rfl rfl ?_
              refine z_iret rfl rfl ?_
              refine ⟨?_, ?_⟩
              · first | rfl | exact congrArg (fun v => some (zi v)) (by omega) | (exfalso; omega)
              · exact hr
            · refine z_iload rfl rfl ?_
              refine z_iload rfl rfl ?_
              refine z_icmp_gt rfl (by omega) (by decide) (fun h10 => ?_) (fun h10 => ?_)
              · refine z_pushI (z := 0) rfl rfl ?_
                refine z_bret rfl rfl (by decide) ?_
                show zW _ _ _ _ _ _ _ _ _ _
                refine z_if_eqT rfl (by decide) (by decide) ?_
                refine z_aload rfl rfl ?_
                refine z_iload rfl rfl ?_
                refine z_iload rfl rfl ?_
                refine z_callVP (As := [_, _]) (v := 0) rfl rfl rfl (Nat.le_of_ble_eq_true rfl) (Nat.le_of_ble_eq_true rfl) (isOne_0 hRr y2.symm yn hp hw hV) ?_
                refine z_if_eqT rfl (by decide) (by decide) ?_
                refine z_pushI (z := (-1)) rfl rfl ?_
                refine z_iret rfl rfl ?_
                refine ⟨?_, ?_⟩
                · first | rfl | exact congrArg (fun v => some (zi v)) (by omega) | (exfalso; omega)
                · exact hr
              · refine z_pushI (z := 1) rfl rfl ?_
                refine z_goto rfl ?_
                refine z_bret rfl rfl (by decide) ?_
                show zW _ _ _ _ _ _ _ _ _ _
                refine z_if_eqF rfl (by decide) (by decide) ?_
                refine z_aload rfl rfl ?_
                refine z_iload rfl rfl ?_
                refine z_callVi (As := [_]) (le := [some _, some _]) rfl rfl rfl (Nat.le_of_ble_eq_true rfl) (Nat.le_of_ble_eq_true rfl) rfl ?_
                refine z_iload rfl rfl ?_
                refine z_pushI (z := 0) rfl rfl ?_
                refine z_aload rfl rfl ?_
                refine z_getI (v := J 50 1) rfl rfl (rfl) ?_
                refine z_pushI (z := 1) rfl rfl ?_
                refine z_isub (e := (J 50 1) - 1) rfl rfl ?_
                refine z_callSi (As := [_, _, _]) (le := [some _, some _, some _]) rfl rfl (Nat.le_of_ble_eq_true rfl) (Nat.le_of_ble_eq_true rfl) rfl ?_
                refine z_iload rfl rfl ?_
                refine z_iload rfl rfl ?_
                refine z_icmp_lt rfl (by omega) (by decide) (fun h11 => ?_) (fun h11 => ?_)
                · refine z_pushI (z := 0) rfl rfl ?_
                  refine z_bret rfl rfl (by decide) ?_
                  show zW _ _ _ _ _ _ _ _ _ _
                  refine z_bret rfl rfl (by decide) ?_
                  show zW _ _ _ _ _ _ _ _ _ _
                  refine z_if_neF rfl (by decide) (by decide) ?_
                  refine z_pushI (z := (-1)) rfl rfl ?_
                  refine z_goto rfl ?_
                  refine z_iret rfl rfl ?_
                  refine ⟨?_, ?_⟩
                  · first | rfl | exact congrArg (fun v => some (zi v)) (by omega) | (exfalso; omega)
                  · exact hr
                · refine z_iload rfl rfl ?_
                  refine z_iload rfl rfl ?_
                  refine z_icmp_gt rfl (by omega) (by omega) (fun h12 => ?_) (fun h12 => ?_)
                  · refine z_pushI (z := 0) rfl rfl ?_
                    refine z_bret rfl rfl (by decide) ?_
                    show zW _ _ _ _ _ _ _ _ _ _
                    refine z_bret rfl rfl (by decide) ?_
                    show zW _ _ _ _ _ _ _ _ _ _
                    refine z_if_neF rfl (by decide) (by decide) ?_
                    refine z_pushI (z := (-1)) rfl rfl ?_
                    refine z_goto rfl ?_
                    refine z_iret rfl rfl ?_
                    refine ⟨?_, ?_⟩
                    · first | rfl | exact congrArg (fun v => some (zi v)) (by omega) | (exfalso; omega)
                    · exact hr
                  · refine z_pushI (z := 1) rfl rfl ?_
                    refine z_goto rfl ?_
                    refine z_bret rfl rfl (by decide) ?_
                    show zW _ _ _ _ _ _ _ _ _ _
                    refine z_bret rfl rfl (by decide) ?_
                    show zW _ _ _ _ _ _ _ _ _ _
                    refine z_if_neT rfl (by decide) (by decide) ?_
                    refine z_iload rfl rfl ?_
                    refine z_pushI (z := 14) rfl rfl ?_
                    refine z_icmp_ne rfl (by omega) (by decide) (fun h13 => ?_) (fun h13 => ?_)
                    · refine z_aload rfl rfl ?_
                      refine z_getR (r := 76) rfl rfl (hRr _ rm_50_43 (by decide)) ?_
                      refine z_iload rfl rfl ?_
                      refine z_iald (v := J 76 p) rfl rfl (by decide) (by omega) (rfl) ?_
                      refine z_iret rfl rfl ?_
                      refine ⟨?_, ?_⟩
                      · first | rfl | exact congrArg (fun v => some (zi v)) (by omega) | (exfalso; omega)
                      · exact hr
                    · refine z_aload rfl rfl ?_
                      refine z_getR (r := 75) rfl rfl (hRr _ rm_50_42 (by decide)) ?_
                      refine z_iload rfl rfl ?_
                      refine z_iald (v := J 75 p) rfl rfl (by decide) (by omega) (rfl) ?_
                      refine z_goto rfl ?_
                      refine z_iret rfl rfl ?_
                      refine ⟨?_, ?_⟩
                      · first | rfl | exact congrArg (fun v => some (zi v)) (by omega) | (exfalso; omega)
                      · exact hr
theorem st_of {X : Nat × (Nat → Int32)} {d : Nat} {J M : zA} {R : zR} {p w : Int} (hr : Rel X J M R) (hp : -2147483648 ≤ p ∧ p < 2147483648) (hw : -2147483648 ≤ w ∧ w < 2147483648) : zW X (d + 20) 105 0 (gEn 105 [.ref 0, zi p, zi w]) [] J M R (stP X (d + 20) 163 [zi p, zi w]) := by
  by_cases hs : w = 14 ∨ w = 15
  · exact st_of_s hr hp hw hs
  · by_cases hV : zV (J 8 2) p w
    · exact st_of_1 hr hp hw hs hV
    · exact st_of_0 hr hp hw hs hV
theorem st_mend_nv {X : Nat × (Nat → Int32)} {d : Nat} {J M : zA} {R : zR} {p w v : Int} (hr : Rel X J M R) (hp : -2147483648 ≤ p ∧ p < 2147483648) (hw : -2147483648 ≤ w ∧ w < 2147483648) (hv : -2147483648 ≤ v ∧ v < 2147483648) (hV : ¬ zV (J 8 2) p w) : zW X (d + 20) 104 0 (gEn 104 [(.ref 0), (zi p), (zi w), (zi v)]) [] J M R (stP X (d + 20) 162 [(zi p), (zi w), (zi v)]) := by
  have hr0 := hr
  obtain ⟨hR, hG, hY, hD, hP, hC, hAc, hS, hTp, hX, hW⟩ := hr0
  have hRr : zRoR R := zRoR_of hR
  have hY0 := hY
  obtain ⟨y1, y2, y3⟩ := hY0
  have yn := zNn y3
  have hC0 := hC
  obtain ⟨c1, c2, c3, c4, c5, c6⟩ := hC0
  show zW _ _ _ _ [some (.ref 0), some (zi p), some (zi w), some (zi v), none] _ _ _ _ _
  refine z_aload rfl rfl ?_
  refine z_getR (r := 8) rfl rfl (hR _ rm_0_1) ?_
  refine z_iload rfl rfl ?_
  refine z_iload rfl rfl ?_
  refine z_callVP (As := [_, _]) (v := 0) rfl rfl rfl (Nat.le_of_ble_eq_true rfl) (Nat.le_of_ble_eq_true rfl) (isNumber_0 hR rfl yn hp hw hV) ?_
  refine z_if_eqT rfl (by decide) (by decide) ?_
  refine z_pushI (z := (-1)) rfl rfl ?_
  refine z_iret rfl rfl ?_
  refine ⟨_, rfl, ?_⟩
  show zW _ _ _ _ [some (.ref 50), some (zi p), some (zi w), some (zi v)] _ _ _ _ _
  refine z_aload rfl rfl ?_
  refine z_iload rfl rfl ?_
  refine z_iload rfl rfl ?_
  refine z_callVP (As := [_, _]) (v := 0) rfl rfl rfl (Nat.le_of_ble_eq_true rfl) (Nat.le_of_ble_eq_true rfl) (isOne_0 hRr y2.symm yn hp hw hV) ?_
  refine z_if_eqT rfl (by decide) (by decide) ?_
  refine z_pushI (z := (-1)) rfl rfl ?_
  refine z_iret rfl rfl ?_
  refine ⟨?_, ?_⟩
  · first | rfl | exact congrArg (fun v => some (zi v)) (by omega) | (exfalso; omega)
  · exact hr
theorem st_mend_nf {X : Nat × (Nat → Int32)} {d : Nat} {J M : zA} {R : zR} {p w v : Int} (hr : Rel X J M R) (hp : -2147483648 ≤ p ∧ p < 2147483648) (hw : -2147483648 ≤ w ∧ w < 2147483648) (hv : -2147483648 ≤ v ∧ v < 2147483648) (hV : zV (J 8 2) p w) (hf : ¬ (zT 2 w ≤ v ∧ v ≤ zT 3 w)) : zW X (d + 20) 104 0 (gEn 104 [(.ref 0), (zi p), (zi w), (zi v)]) [] J M R (stP X (d + 20) 162 [(zi p), (zi w), (zi v)]) := by
  have hr0 := hr
  obtain ⟨hR, hG, hY, hD, hP, hC, hAc, hS, hTp, hX, hW⟩ := hr0
  have hRr : zRoR R := zRoR_of hR
  have hY0 := hY
  obtain ⟨y1, y2, y3⟩ := hY0
  have yn := zNn y3
  have hC0 := hC
  obtain ⟨c1, c2, c3, c4, c5, c6⟩ := hC0
  show zW _ _ _ _ [some (.ref 0), some (zi p), some (zi w), some (zi v), none] _ _ _ _ _
  refine z_aload rfl rfl ?_
  refine z_getR (r := 8) rfl rfl (hR _ rm_0_1) ?_
  refine z_iload rfl rfl ?_
  refine z_iload rfl rfl ?_
  refine z_callVP (As := [_, _]) (v := 1) rfl rfl rfl (Nat.le_of_ble_eq_true rfl) (Nat.le_of_ble_eq_true rfl) (isNumber_1 hR rfl yn hp hw hV) ?_
  refine z_if_eqF rfl (by decide) (by decide) ?_
  refine z_iload rfl rfl ?_
  refine z_iload rfl rfl ?_
  refine z_callSP (As := [_, _]) (v := 0) rfl rfl (Nat.le_of_ble_eq_true rfl) (Nat.le_of_ble_eq_true rfl) (isFit_0 hv hw (by omega) hf) ?_
  refine z_if_neF rfl (by decide) (by decide) ?_
  refine z_pushI (z := (-1)) rfl rfl ?_
  refine z_iret rfl rfl ?_
  refine ⟨_, rfl, ?_⟩
  show zW _ _ _ _ [some (.ref 50), some (zi p), some (zi w), some (zi v)] _ _ _ _ _
  refine z_aload rfl rfl ?_
  refine z_iload rfl rfl ?_
  refine z_iload rfl rfl ?_
  refine z_callVP (As := [_, _]) (v := 1) rfl rfl rfl (Nat.le_of_ble_eq_true rfl) (Nat.le_of_ble_eq_true rfl) (isOne_1 hRr y2.symm yn hp hw hV) ?_
  refine z_if_eqF rfl (by decide) (by decide) ?_
  refine z_iload rfl rfl ?_
  refine z_iload rfl rfl ?_
  refine z_callSP (As := [_, _]) (v := 0) rfl rfl (Nat.le_of_ble_eq_true rfl) (Nat.le_of_ble_eq_true rfl) (mayBe_0 hv hw (by omega) hf) ?_
  refine z_if_eqT rfl (by decide) (by decide) ?_
  refine z_pushI (z := (-1)) rfl rfl ?_
  refine z_iret rfl rfl ?_
  refine ⟨?_, ?_⟩
  · first | rfl | exact congrArg (fun v => some (zi v)) (by omega) | (exfalso; omega)
  · exact hr
theorem zN_r {n : Int} {N : Int → Int → Int} (h : zNr n N) {p w : Int} (hV : zV n p w) : 0 ≤ N p w ∧ N p w ≤ 9999 := by
  have e : (0 ≤ w ∧ w < 14) ∧ (5 ≤ w → p = 0) := by unfold zV at hV; omega
  rcases w14 e.1 with rfl | rfl | rfl | rfl | rfl | rfl | rfl | rfl | rfl | rfl | rfl | rfl | rfl | rfl
  · have q := zN0 h p; omega
  · have q := zN1 h p; omega
  · have q := zN2 h p; omega
  · have q := zN3 h p; omega
  · have q := zN4 h p; omega
  · have q := zN5 h
    rw [e.2 (by omega)]
    omega
  · have q := zN6 h
    rw [e.2 (by omega)]
    omega
  · have q := zN7 h
    rw [e.2 (by omega)]
    omega
  · have q := zN8 h
    rw [e.2 (by omega)]
    omega
  · have q := zN9 h
    rw [e.2 (by omega)]
    omega
  · have q := zN10 h
    rw [e.2 (by omega)]
    omega
  · have q := zN11 h
    rw [e.2 (by omega)]
    omega
  · have q := zN12 h
    rw [e.2 (by omega)]
    omega
  · have q := zN13 h
    rw [e.2 (by omega)]
    omega
theorem zN_fit {n : Int} {N : Int → Int → Int} (h : zNr n N) {p w : Int} (hV : zV n p w) : zFit w (N p w) := by
  have e : (0 ≤ w ∧ w < 14) ∧ (5 ≤ w → p = 0) := by unfold zV at hV; omega
  rcases w14 e.1 with rfl | rfl | rfl | rfl | rfl | rfl | rfl | rfl | rfl | rfl | rfl | rfl | rfl | rfl
  · exact zN0 h p
  · exact zN1 h p
  · exact zN2 h p
  · exact zN3 h p
  · exact zN4 h p
  · rw [e.2 (by omega)]; exact zN5 h
  · rw [e.2 (by omega)]; exact zN6 h
  · rw [e.2 (by omega)]; exact zN7 h
  · rw [e.2 (by omega)]; exact zN8 h
  · rw [e.2 (by omega)]; exact zN9 h
  · rw [e.2 (by omega)]; exact zN10 h
  · rw [e.2 (by omega)]; exact zN11 h
  · rw [e.2 (by omega)]; exact zN12 h
  · rw [e.2 (by omega)]; exact zN13 h
theorem st_mend_eq {X : Nat × (Nat → Int32)} {d : Nat} {J M : zA} {R : zR} {p w v : Int} (hr : Rel X J M R) (hp : -2147483648 ≤ p ∧ p < 2147483648) (hw : -2147483648 ≤ w ∧ w < 2147483648) (hv : -2147483648 ≤ v ∧ v < 2147483648) (hV : zV (J 8 2) p w) (hf : zT 2 w ≤ v ∧ v ≤ zT 3 w) (he : (cN J) p w = v) : zW X (d + 20) 104 0 (gEn 104 [(.ref 0), (zi p), (zi w), (zi v)]) [] J M R (stP X (d + 20) 162 [(zi p), (zi w), (zi v)]) := by
  have hr0 := hr
  obtain ⟨hR, hG, hY, hD, hP, hC, hAc, hS, hTp, hX, hW⟩ := hr0
  have hRr : zRoR R := zRoR_of hR
  have hY0 := hY
  obtain ⟨y1, y2, y3⟩ := hY0
  have yn := zNn y3
  have hC0 := hC
  obtain ⟨c1, c2, c3, c4, c5, c6⟩ := hC0
  have nr := zN_r y3 hV
  show zW _ _ _ _ [some (.ref 0), some (zi p), some (zi w), some (zi v), none] _ _ _ _ _
  refine z_aload rfl rfl ?_
  refine z_getR (r := 8) rfl rfl (hR _ rm_0_1) ?_
  refine z_iload rfl rfl ?_
  refine z_iload rfl rfl ?_
  refine z_callVP (As := [_, _]) (v := 1) rfl rfl rfl (Nat.le_of_ble_eq_true rfl) (Nat.le_of_ble_eq_true rfl) (isNumber_1 hR rfl yn hp hw hV) ?_
  refine z_if_eqF rfl (by decide) (by decide) ?_
  refine z_iload rfl rfl ?_
  refine z_iload rfl rfl ?_
  refine z_callSP (As := [_, _]) (v := 1) rfl rfl (Nat.le_of_ble_eq_true rfl) (Nat.le_of_ble_eq_true rfl) (isFit_1 hv hw (by omega) hf) ?_
  refine z_if_neT rfl (by decide) (by decide) ?_
  refine z_aload rfl rfl ?_
  refine z_getR (r := 8) rfl rfl (hR _ rm_0_1) ?_
  refine z_iload rfl rfl ?_
  refine z_iload rfl rfl ?_
  refine z_callVP (As := [_, _]) (v := (cN J) p w) rfl rfl rfl (Nat.le_of_ble_eq_true rfl) (Nat.le_of_ble_eq_true rfl) (told_k hR zK_r rfl rfl y3 hp hw) ?_
  refine z_istore rfl rfl ?_
  refine z_iload rfl rfl ?_
  refine z_iload rfl rfl ?_
  refine z_icmp_eqT rfl (by omega) (by omega) (by omega) ?_
  refine z_iload rfl rfl ?_
  refine z_iret rfl rfl ?_
  refine ⟨_, rfl, ?_⟩
  show zW _ _ _ _ [some (.ref 50), some (zi p), some (zi w), some (zi v)] _ _ _ _ _
  refine z_aload rfl rfl ?_
  refine z_iload rfl rfl ?_
  refine z_iload rfl rfl ?_
  refine z_callVP (As := [_, _]) (v := 1) rfl rfl rfl (Nat.le_of_ble_eq_true rfl) (Nat.le_of_ble_eq_true rfl) (isOne_1 hRr y2.symm yn hp hw hV) ?_
  refine z_if_eqF rfl (by decide) (by decide) ?_
  refine z_iload rfl rfl ?_
  refine z_iload rfl rfl ?_
  refine z_callSP (As := [_, _]) (v := 1) rfl rfl (Nat.le_of_ble_eq_true rfl) (Nat.le_of_ble_eq_true rfl) (mayBe_1 hv hw (by omega) hf) ?_
  refine z_if_eqF rfl (by decide) (by decide) ?_
  refine z_aload rfl rfl ?_
  refine z_iload rfl rfl ?_
  refine z_iload rfl rfl ?_
  refine z_iload rfl rfl ?_
  refine z_callVi (As := [_, _, _]) (le := [some _, some _, some _, some _, none, none]) rfl rfl rfl (Nat.le_of_ble_eq_true rfl) (Nat.le_of_ble_eq_true rfl) rfl ?_
  refine z_aload rfl rfl ?_
  refine z_iload rfl rfl ?_
  refine z_iload rfl rfl ?_
  refine z_callVP (As := [_, _]) (v := (cN J) p w) rfl rfl rfl (Nat.le_of_ble_eq_true rfl) (Nat.le_of_ble_eq_true rfl) (valueAt_s hRr y1.symm y2.symm y3 hp hw hV) ?_
  refine z_istore rfl rfl ?_
  refine z_iload rfl rfl ?_
  refine z_iload rfl rfl ?_
  refine z_icmp_neF rfl (by omega) (by omega) (by omega) ?_
  refine z_iload rfl rfl ?_
  refine z_iret rfl rfl ?_
  show zW _ _ _ _ _ _ _ _ _ _
  refine z_goto rfl ?_
  refine z_iret rfl rfl ?_
  refine ⟨?_, ?_⟩
  · first | rfl | exact congrArg (fun v => some (zi v)) (by omega) | (exfalso; omega)
  · exact hr
