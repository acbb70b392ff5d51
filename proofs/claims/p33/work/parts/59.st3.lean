theorem RelC_undo {J : zA} (r : RelC J) (h : 0 < J 29 5) : RelC (zU (zU (zU J 29 5 (J 29 5 - 1)) 50 8 (J 29 5 - 1)) 50 9 (J 50 9 + 1)) := by
  obtain ⟨c1, c2, c3, c4, c5, c6⟩ := r
  refine ⟨rfl, ?_, ?_, ?_, ?_, c6⟩
  · show J 29 6 = J 29 5 - 1 + (J 50 9 + 1); omega
  · show 0 ≤ J 29 5 - 1; omega
  · show 0 ≤ J 50 9 + 1; omega
  · show J 29 5 - 1 + (J 50 9 + 1) ≤ 40; omega
theorem RelC_redo {J : zA} (r : RelC J) (h : J 29 5 < J 29 6) : RelC (zU (zU (zU J 29 5 (J 29 5 + 1)) 50 8 (J 29 5 + 1)) 50 9 (J 50 9 - 1)) := by
  obtain ⟨c1, c2, c3, c4, c5, c6⟩ := r
  refine ⟨rfl, ?_, ?_, ?_, ?_, c6⟩
  · show J 29 6 = J 29 5 + 1 + (J 50 9 - 1); omega
  · show 0 ≤ J 29 5 + 1; omega
  · show 0 ≤ J 50 9 - 1; omega
  · show J 29 5 + 1 + (J 50 9 - 1) ≤ 40; omega
theorem zFit_c {w c v : Int} (h : zFit w v) (e : w = c) : zFit c v := e ▸ h
theorem zFit_r {w v : Int} (hw : 0 ≤ w ∧ w < 14) (h : zFit w v) : 0 ≤ v ∧ v ≤ 9999 := by
  have e : w = 0 ∨ w = 1 ∨ w = 2 ∨ w = 3 ∨ w = 4 ∨ w = 5 ∨ w = 6 ∨ w = 7 ∨ w = 8 ∨ w = 9 ∨ w = 10 ∨ w = 11 ∨ w = 12 ∨ w = 13 := by omega
  rcases e with rfl | rfl | rfl | rfl | rfl | rfl | rfl | rfl | rfl | rfl | rfl | rfl | rfl | rfl
  · have q : (0 : Int) ≤ v ∧ v ≤ 99 := h; omega
  · have q : (0 : Int) ≤ v ∧ v ≤ 99 := h; omega
  · have q : (0 : Int) ≤ v ∧ v ≤ 99 := h; omega
  · have q : (0 : Int) ≤ v ∧ v ≤ 9 := h; omega
  · have q : (0 : Int) ≤ v ∧ v ≤ 9 := h; omega
  · have q : (0 : Int) ≤ v ∧ v ≤ 99 := h; omega
  · have q : (0 : Int) ≤ v ∧ v ≤ 999 := h; omega
  · have q : (1 : Int) ≤ v ∧ v ≤ 99 := h; omega
  · have q : (0 : Int) ≤ v ∧ v ≤ 9999 := h; omega
  · have q : (0 : Int) ≤ v ∧ v ≤ 9999 := h; omega
  · have q : (0 : Int) ≤ v ∧ v ≤ 12 := h; omega
  · have q : (0 : Int) ≤ v ∧ v ≤ 9999 := h; omega
  · have q : (1 : Int) ≤ v ∧ v ≤ 99 := h; omega
  · have q : (1 : Int) ≤ v ∧ v ≤ 99 := h; omega
theorem st_undo_0 {X : Nat × (Nat → Int32)} {d : Nat} {J M : zA} {R : zR} (hr : Rel X J M R)  (h0 : J 29 5 ≤ 0) : zW X (d + 20) 131 0 (gEn 131 [(.ref 0)]) [] J M R (stP X (d + 20) 158 []) := by
  have hr0 := hr
  obtain ⟨hR, hG, hY, hD, hP, hC, hAc, hS, hTp, hX, hW⟩ := hr0
  have hRr : zRoR R := zRoR_of hR
  have hY0 := hY
  obtain ⟨y1, y2, y3⟩ := hY0
  have yn := zNn y3
  have hC0 := hC
  obtain ⟨c1, c2, c3, c4, c5, c6⟩ := hC0
  show zW _ _ _ _ [some (.ref 0)] _ _ _ _ _
  refine z_aload rfl rfl ?_
  refine z_getR (r := 29) rfl rfl (hR _ rm_0_9) ?_
  refine z_callVi (As := []) (le := [some _]) rfl rfl rfl (Nat.le_of_ble_eq_true rfl) (Nat.le_of_ble_eq_true rfl) rfl ?_
  refine z_aload rfl rfl ?_
  refine z_getI (v := J 29 5) rfl rfl (rfl) ?_
  refine z_if_gtF rfl (by omega) (by omega) ?_
  refine z_pushI (z := 0) rfl rfl ?_
  refine z_bret rfl rfl (by decide) ?_
  show zW _ _ _ _ _ _ _ _ _ _
  refine z_if_eqT rfl (by decide) (by decide) ?_
  refine z_pushI (z := (-5)) rfl rfl ?_
  refine z_iret rfl rfl ?_
  refine ⟨_, rfl, ?_⟩
  show zW _ _ _ _ [some (.ref 50)] _ _ _ _ _
  refine z_aload rfl rfl ?_
  refine z_getI (v := J 29 5) rfl rfl (c1.symm) ?_
  refine z_if_neF rfl (by omega) (by omega) ?_
  refine z_pushI (z := (-5)) rfl rfl ?_
  refine z_iret rfl rfl ?_
  refine ⟨?_, ?_⟩
  · first | rfl | exact congrArg (fun v => some (zi v)) (by omega) | (exfalso; omega)
  · exact hr
theorem st_undo_1 {X : Nat × (Nat → Int32)} {d : Nat} {J M : zA} {R : zR} (hr : Rel X J M R)  (h0 : ¬ J 29 5 ≤ 0) : zW X (d + 20) 131 0 (gEn 131 [(.ref 0)]) [] J M R (stP X (d + 20) 158 []) := by
  have hr0 := hr
  obtain ⟨hR, hG, hY, hD, hP, hC, hAc, hS, hTp, hX, hW⟩ := hr0
  have hRr : zRoR R := zRoR_of hR
  have hY0 := hY
  obtain ⟨y1, y2, y3⟩ := hY0
  have yn := zNn y3
  have hC0 := hC
  obtain ⟨c1, c2, c3, c4, c5, c6⟩ := hC0
  have ci := RelC_i hC (i := J 29 5 - 1) (by omega) (by omega)
  obtain ⟨⟨ci1, ci2, ci3, ci4⟩, ci5, ci6, ci7⟩ := ci
  have hfit : zFit (J 31 (J 29 5 - 1)) (J 32 (J 29 5 - 1)) := ci6
  have rv := zFit_r (w := J 31 (J 29 5 - 1)) (by omega) hfit
  show zW _ _ _ _ [some (.ref 0)] _ _ _ _ _
  refine z_aload rfl rfl ?_
  refine z_getR (r := 29) rfl rfl (hR _ rm_0_9) ?_
  refine z_callVi (As := []) (le := [some _]) rfl rfl rfl (Nat.le_of_ble_eq_true rfl) (Nat.le_of_ble_eq_true rfl) rfl ?_
  refine z_aload rfl rfl ?_
  refine z_getI (v := J 29 5) rfl rfl (rfl) ?_
  refine z_if_gtT rfl (by omega) (by omega) ?_
  refine z_aload rfl rfl ?_
  refine z_dup rfl rfl ?_
  refine z_getI (v := J 29 5) rfl rfl (rfl) ?_
  refine z_pushI (z := 1) rfl rfl ?_
  refine z_isub (e := (J 29 5) - 1) rfl rfl ?_
  refine z_putI (y := 5) rfl rfl rfl ?_
  refine z_aload rfl rfl ?_
  refine z_getR (r := 8) rfl rfl (hR _ rm_29_0) ?_
  refine z_aload rfl rfl ?_
  refine z_getR (r := 30) rfl rfl (hR _ rm_29_1) ?_
  refine z_aload rfl rfl ?_
  refine z_getI (v := (J 29 5) - 1) rfl rfl (zU_e) ?_
  refine z_iald (v := J 30 ((J 29 5) - 1)) rfl rfl (by decide) (by omega) ((zU_n (by decide)).trans (rfl)) ?_
  refine z_aload rfl rfl ?_
  refine z_getR (r := 31) rfl rfl (hR _ rm_29_2) ?_
  refine z_aload rfl rfl ?_
  refine z_getI (v := (J 29 5) - 1) rfl rfl (zU_e) ?_
  refine z_iald (v := J 31 ((J 29 5) - 1)) rfl rfl (by decide) (by omega) ((zU_n (by decide)).trans (rfl)) ?_
  refine z_aload rfl rfl ?_
  refine z_getR (r := 32) rfl rfl (hR _ rm_29_3) ?_
  refine z_aload rfl rfl ?_
  refine z_getI (v := (J 29 5) - 1) rfl rfl (zU_e) ?_
  refine z_iald (v := J 32 ((J 29 5) - 1)) rfl rfl (by decide) (by omega) ((zU_n (by decide)).trans (rfl)) ?_
  refine z_callVi (As := [_, _, _]) (le := [some _, some _, some _, some _, none]) rfl rfl rfl (Nat.le_of_ble_eq_true rfl) (Nat.le_of_ble_eq_true rfl) rfl ?_
  refine z_aload rfl rfl ?_
  refine z_iload rfl rfl ?_
  refine z_iload rfl rfl ?_
  refine z_callVi (As := [_, _]) (le := [some _, some _, some _]) rfl rfl rfl (Nat.le_of_ble_eq_true rfl) (Nat.le_of_ble_eq_true rfl) rfl ?_
  refine z_iload rfl rfl ?_
  refine z_if_lt rfl (by omega) (fun h1 => ?_) (fun h1 => ?_)
  · refine z_pushI (z := (-1)) rfl rfl ?_
    refine z_iret rfl rfl ?_
    show zW _ _ _ _ _ _ _ _ _ _
    refine z_istore rfl rfl ?_
    refine z_iload rfl rfl ?_
    refine z_if_ltT rfl (by decide) (by decide) ?_
    refine z_vret rfl rfl ?_
    show zW _ _ _ _ _ _ _ _ _ _
    refine z_pushI (z := 1) rfl rfl ?_
    refine z_bret rfl rfl (by decide) ?_
    show zW _ _ _ _ _ _ _ _ _ _
    refine z_if_eqF rfl (by decide) (by decide) ?_
    refine z_aload rfl rfl ?_
    refine z_getR (r := 29) rfl rfl (hR _ rm_0_9) ?_
    refine z_getI (v := (J 29 5) - 1) rfl rfl (zU_e) ?_
    refine z_goto rfl ?_
    refine z_iret rfl rfl ?_
    refine ⟨_, rfl, ?_⟩
    show zW _ _ _ _ [some (.ref 50)] _ _ _ _ _
    refine z_aload rfl rfl ?_
    refine z_getI (v := J 29 5) rfl rfl ((zU_n (by decide)).trans (c1.symm)) ?_
    refine z_if_neT rfl (by omega) (by omega) ?_
    refine z_aload rfl rfl ?_
    refine z_dup rfl rfl ?_
    refine z_getI (v := J 29 5) rfl rfl ((zU_n (by decide)).trans (c1.symm)) ?_
    refine z_pushI (z := 1) rfl rfl ?_
    refine z_isub (e := (J 29 5) - 1) rfl rfl ?_
    refine z_putI (y := 8) rfl rfl rfl ?_
    refine z_aload rfl rfl ?_
    refine z_dup rfl rfl ?_
    refine z_getI (v := J 50 9) rfl rfl ((zU_x (by decide)).trans ((zU_n (by decide)).trans (rfl))) ?_
    refine z_pushI (z := 1) rfl rfl ?_
    refine z_iadd (e := (J 50 9) + 1) rfl rfl ?_
    refine z_putI (y := 9) rfl rfl rfl ?_
    refine z_aload rfl rfl ?_
    refine z_aload rfl rfl ?_
    refine z_getR (r := 57) rfl rfl (hRr _ rm_50_10 (by decide)) ?_
    refine z_aload rfl rfl ?_
    refine z_getI (v := (J 29 5) - 1) rfl rfl ((zU_x (by decide)).trans (zU_e)) ?_
    refine z_iald (v := J 57 ((J 29 5) - 1)) rfl rfl (by decide) (by omega) ((zU_n (by decide)).trans ((zU_n (by decide)).trans ((zU_n (by decide)).trans (rfl)))) ?_
    refine z_aload rfl rfl ?_
    refine z_getR (r := 58) rfl rfl (hRr _ rm_50_11 (by decide)) ?_
    refine z_aload rfl rfl ?_
    refine z_getI (v := (J 29 5) - 1) rfl rfl ((zU_x (by decide)).trans (zU_e)) ?_
    refine z_iald (v := J 58 ((J 29 5) - 1)) rfl rfl (by decide) (by omega) ((zU_n (by decide)).trans ((zU_n (by decide)).trans ((zU_n (by decide)).trans (rfl)))) ?_
    refine z_aload rfl rfl ?_
    refine z_getR (r := 59) rfl rfl (hRr _ rm_50_12 (by decide)) ?_
    refine z_aload rfl rfl ?_
    refine z_getI (v := (J 29 5) - 1) rfl rfl ((zU_x (by decide)).trans (zU_e)) ?_
    refine z_iald (v := J 59 ((J 29 5) - 1)) rfl rfl (by decide) (by omega) ((zU_n (by decide)).trans ((zU_n (by decide)).trans ((zU_n (by decide)).trans (rfl)))) ?_
    refine z_callVi (As := [_, _, _]) (le := [some _, some _, some _, some _]) rfl rfl rfl (Nat.le_of_ble_eq_true rfl) (Nat.le_of_ble_eq_true rfl) rfl ?_
    refine z_iload rfl rfl ?_
    refine z_sw (T := [((0 : Int), 36), ((1 : Int), 46), ((2 : Int), 56), ((3 : Int), 66), ((4 : Int), 76)]) rfl (by omega) rfl (fun q hq2 hxhq2 => ?_) (fun hq2 => ?_)
    · simp only [List.mem_cons, List.not_mem_nil, or_false] at hq2
      rcases hq2 with rfl | rfl | rfl | rfl | rfl
      · have hxhq2 : J 57 ((J 29 5) - 1) = 0 := hxhq2
        refine z_aload rfl rfl ?_
        refine z_getR (r := 51) rfl rfl (hRr _ rm_50_2 (by decide)) ?_
        refine z_iload rfl rfl ?_
        refine z_iload rfl rfl ?_
        refine z_iast (e := J 59 ((J 29 5) - 1)) rfl rfl (by decide) (by omega) rfl ?_
        refine z_goto rfl ?_
        refine z_vret rfl rfl ?_
        show zW _ _ _ _ _ _ _ _ _ _
        refine z_aload rfl rfl ?_
        refine z_getI (v := (J 29 5) - 1) rfl rfl ((zU_n (by decide)).trans ((zU_x (by decide)).trans (zU_e))) ?_
        refine z_iret rfl rfl ?_
        refine ⟨?_, ?_⟩
        · first | rfl | exact congrArg (fun v => some (zi v)) (by omega) | (exfalso; omega)
        · exfalso
          omega
      · have hxhq2 : J 57 ((J 29 5) - 1) = 1 := hxhq2
        refine z_aload rfl rfl ?_
        refine z_getR (r := 52) rfl rfl (hRr _ rm_50_3 (by decide)) ?_
        refine z_iload rfl rfl ?_
        refine z_iload rfl rfl ?_
        refine z_iast (e := J 59 ((J 29 5) - 1)) rfl rfl (by decide) (by omega) rfl ?_
        refine z_goto rfl ?_
        refine z_vret rfl rfl ?_
        show zW _ _ _ _ _ _ _ _ _ _
        refine z_aload rfl rfl ?_
        refine z_getI (v := (J 29 5) - 1) rfl rfl ((zU_n (by decide)).trans ((zU_x (by decide)).trans (zU_e))) ?_
        refine z_iret rfl rfl ?_
        refine ⟨?_, ?_⟩
        · first | rfl | exact congrArg (fun v => some (zi v)) (by omega) | (exfalso; omega)
        · exfalso
          omega
      · have hxhq2 : J 57 ((J 29 5) - 1) = 2 := hxhq2
        refine z_aload rfl rfl ?_
        refine z_getR (r := 53) rfl rfl (hRr _ rm_50_4 (by decide)) ?_
        refine z_iload rfl rfl ?_
        refine z_iload rfl rfl ?_
        refine z_iast (e := J 59 ((J 29 5) - 1)) rfl rfl (by decide) (by omega) rfl ?_
        refine z_goto rfl ?_
        refine z_vret rfl rfl ?_
        show zW _ _ _ _ _ _ _ _ _ _
        refine z_aload rfl rfl ?_
        refine z_getI (v := (J 29 5) - 1) rfl rfl ((zU_n (by decide)).trans ((zU_x (by decide)).trans (zU_e))) ?_
        refine z_iret rfl rfl ?_
        refine ⟨?_, ?_⟩
        · first | rfl | exact congrArg (fun v => some (zi v)) (by omega) | (exfalso; omega)
        · exfalso
          omega
      · have hxhq2 : J 57 ((J 29 5) - 1) = 3 := hxhq2
        refine z_aload rfl rfl ?_
        refine z_getR (r := 54) rfl rfl (hRr _ rm_50_5 (by decide)) ?_
        refine z_iload rfl rfl ?_
        refine z_iload rfl rfl ?_
        refine z_iast (e := J 59 ((J 29 5) - 1)) rfl rfl (by decide) (by omega) rfl ?_
        refine z_goto rfl ?_
        refine z_vret rfl rfl ?_
        show zW _ _ _ _ _ _ _ _ _ _
        refine z_aload rfl rfl ?_
        refine z_getI (v := (J 29 5) - 1) rfl rfl ((zU_n (by decide)).trans ((zU_x (by decide)).trans (zU_e))) ?_
        refine z_iret rfl rfl ?_
        refine ⟨?_, ?_⟩
        · first | rfl | exact congrArg (fun v => some (zi v)) (by omega) | (exfalso; omega)
        · exfalso
          omega
      · have hxhq2 : J 57 ((J 29 5) - 1) = 4 := hxhq2
        refine z_aload rfl rfl ?_
        refine z_getR (r := 55) rfl rfl (hRr _ rm_50_6 (by decide)) ?_
        refine z_iload rfl rfl ?_
        refine z_iload rfl rfl ?_
        refine z_iast (e := J 59 ((J 29 5) - 1)) rfl rfl (by decide) (by omega) rfl ?_
        refine z_goto rfl ?_
        refine z_vret rfl rfl ?_
        show zW _ _ _ _ _ _ _ _ _ _
        refine z_aload rfl rfl ?_
        refine z_getI (v := (J 29 5) - 1) rfl rfl ((zU_n (by decide)).trans ((zU_x (by decide)).trans (zU_e))) ?_
        refine z_iret rfl rfl ?_
        refine ⟨?_, ?_⟩
        · first | rfl | exact congrArg (fun v => some (zi v)) (by omega) | (exfalso; omega)
        · exfalso
          omega
    · have hq2 : ∀ q ∈ [((0 : Int), 36), ((1 : Int), 46), ((2 : Int), 56), ((3 : Int), 66), ((4 : Int), 76)], ¬ J 57 ((J 29 5) - 1) = q.1 := hq2
      have hq2_0 : ¬ J 57 ((J 29 5) - 1) = 0 := hq2 (0, 36) (by simp)
      have hq2_1 : ¬ J 57 ((J 29 5) - 1) = 1 := hq2 (1, 46) (by simp)
      have hq2_2 : ¬ J 57 ((J 29 5) - 1) = 2 := hq2 (2, 56) (by simp)
      have hq2_3 : ¬ J 57 ((J 29 5) - 1) = 3 := hq2 (3, 66) (by simp)
      have hq2_4 : ¬ J 57 ((J 29 5) - 1) = 4 := hq2 (4, 76) (by simp)
      refine z_aload rfl rfl ?_
      refine z_getR (r := 56) rfl rfl (hRr _ rm_50_7 (by decide)) ?_
      refine z_iload rfl rfl ?_
      refine z_pushI (z := 5) rfl rfl ?_
      refine z_isub (e := (J 57 ((J 29 5) - 1)) - 5) rfl rfl ?_
      refine z_iload rfl rfl ?_
      refine z_iast (e := J 59 ((J 29 5) - 1)) rfl rfl (by decide) (by omega) rfl ?_
      refine z_vret rfl rfl ?_
      show zW _ _ _ _ _ _ _ _ _ _
      refine z_aload rfl rfl ?_
      refine z_getI (v := (J 29 5) - 1) rfl rfl ((zU_n (by decide)).trans ((zU_x (by decide)).trans (zU_e))) ?_
      refine z_iret rfl rfl ?_
      refine ⟨?_, ?_⟩
      · first | rfl | exact congrArg (fun v => some (zi v)) (by omega) | (exfalso; omega)
      · exfalso
        omega
  · refine z_iload rfl rfl ?_
    refine z_pushI (z := 14) rfl rfl ?_
    refine z_icmp_lt rfl (by omega) (by decide) (fun h2 => ?_) (fun h2 => ?_)
    · refine z_iload rfl rfl ?_
      refine z_pushI (z := 5) rfl rfl ?_
      refine z_icmp_ge rfl (by omega) (by decide) (fun h3 => ?_) (fun h3 => ?_)
      · refine z_iload rfl rfl ?_
        refine z_if_ne rfl (by omega) (fun h4 => ?_) (fun h4 => ?_)
        · refine z_pushI (z := (-1)) rfl rfl ?_
          refine z_iret rfl rfl ?_
          show zW _ _ _ _ _ _ _ _ _ _
          refine z_istore rfl rfl ?_
          refine z_iload rfl rfl ?_
          refine z_if_ltT rfl (by decide) (by decide) ?_
          refine z_vret rfl rfl ?_
          show zW _ _ _ _ _ _ _ _ _ _
          refine z_pushI (z := 1) rfl rfl ?_
          refine z_bret rfl rfl (by decide) ?_
          show zW _ _ _ _ _ _ _ _ _ _
          refine z_if_eqF rfl (by decide) (by decide) ?_
          refine z_aload rfl rfl ?_
          refine z_getR (r := 29) rfl rfl (hR _ rm_0_9) ?_
          refine z_getI (v := (J 29 5) - 1) rfl rfl (zU_e) ?_
          refine z_goto rfl ?_
          refine z_iret rfl rfl ?_
          refine ⟨_, rfl, ?_⟩
          show zW _ _ _ _ [some (.ref 50)] _ _ _ _ _
          refine z_aload rfl rfl ?_
          refine z_getI (v := J 29 5) rfl rfl ((zU_n (by decide)).trans (c1.symm)) ?_
          refine z_if_neT rfl (by omega) (by omega) ?_
          refine z_aload rfl rfl ?_
          refine z_dup rfl rfl ?_
          refine z_getI (v := J 29 5) rfl rfl ((zU_n (by decide)).trans (c1.symm)) ?_
          refine z_pushI (z := 1) rfl rfl ?_
          refine z_isub (e := (J 29 5) - 1) rfl rfl ?_
          refine z_putI (y := 8) rfl rfl rfl ?_
          refine z_aload rfl rfl ?_
          refine z_dup rfl rfl ?_
          refine z_getI (v := J 50 9) rfl rfl ((zU_x (by decide)).trans ((zU_n (by decide)).trans (rfl))) ?_
          refine z_pushI (z := 1) rfl rfl ?_
          refine z_iadd (e := (J 50 9) + 1) rfl rfl ?_
          refine z_putI (y := 9) rfl rfl rfl ?_
          refine z_aload rfl rfl ?_
          refine z_aload rfl rfl ?_
          refine z_getR (r := 57) rfl rfl (hRr _ rm_50_10 (by decide)) ?_
          refine z_aload rfl rfl ?_
          refine z_getI (v := (J 29 5) - 1) rfl rfl ((zU_x (by decide)).trans (zU_e)) ?_
          refine z_iald (v := J 57 ((J 29 5) - 1)) rfl rfl (by decide) (by omega) ((zU_n (by decide)).trans ((zU_n (by decide)).trans ((zU_n (by decide)).trans (rfl)))) ?_
          refine z_aload rfl rfl ?_
          refine z_getR (r := 58) rfl rfl (hRr _ rm_50_11 (by decide)) ?_
          refine z_aload rfl rfl ?_
          refine z_getI (v := (J 29 5) - 1) rfl rfl ((zU_x (by decide)).trans (zU_e)) ?_
          refine z_iald (v := J 58 ((J 29 5) - 1)) rfl rfl (by decide) (by omega) ((zU_n (by decide)).trans ((zU_n (by decide)).trans ((zU_n (by decide)).trans (rfl)))) ?_
          refine z_aload rfl rfl ?_
          refine z_getR (r := 59) rfl rfl (hRr _ rm_50_12 (by decide)) ?_
          refine z_aload rfl rfl ?_
          refine z_getI (v := (J 29 5) - 1) rfl rfl ((zU_x (by decide)).trans (zU_e)) ?_
          refine z_iald (v := J 59 ((J 29 5) - 1)) rfl rfl (by decide) (by omega) ((zU_n (by decide)).trans ((zU_n (by decide)).trans ((zU_n (by decide)).trans (rfl)))) ?_
          refine z_callVi (As := [_, _, _]) (le := [some _, some _, some _, some _]) rfl rfl rfl (Nat.le_of_ble_eq_true rfl) (Nat.le_of_ble_eq_true rfl) rfl ?_
          refine z_iload rfl rfl ?_
          refine z_sw (T := [((0 : Int), 36), ((1 : Int), 46), ((2 : Int), 56), ((3 : Int), 66), ((4 : Int), 76)]) rfl (by omega) rfl (fun q hq5 hxhq5 => ?_) (fun hq5 => ?_)
          · simp only [List.mem_cons, List.not_mem_nil, or_false] at hq5
            rcases hq5 with rfl | rfl | rfl | rfl | rfl
            · have hxhq5 : J 57 ((J 29 5) - 1) = 0 := hxhq5
              refine z_aload rfl rfl ?_
              refine z_getR (r := 51) rfl rfl (hRr _ rm_50_2 (by decide)) ?_
              refine z_iload rfl rfl ?_
              refine z_iload rfl rfl ?_
              refine z_iast (e := J 59 ((J 29 5) - 1)) rfl rfl (by decide) (by omega) rfl ?_
              refine z_goto rfl ?_
              refine z_vret rfl rfl ?_
              show zW _ _ _ _ _ _ _ _ _ _
              refine z_aload rfl rfl ?_
              refine z_getI (v := (J 29 5) - 1) rfl rfl ((zU_n (by decide)).trans ((zU_x (by decide)).trans (zU_e))) ?_
              refine z_iret rfl rfl ?_
              refine ⟨?_, ?_⟩
              · first | rfl | exact congrArg (fun v => some (zi v)) (by omega) | (exfalso; omega)
              · exfalso
                omega
            · have hxhq5 : J 57 ((J 29 5) - 1) = 1 := hxhq5
              refine z_aload rfl rfl ?_
              refine z_getR (r := 52) rfl rfl (hRr _ rm_50_3 (by decide)) ?_
              refine z_iload rfl rfl ?_
              refine z_iload rfl rfl ?_
              refine z_iast (e := J 59 ((J 29 5) - 1)) rfl rfl (by decide) (by omega) rfl ?_
              refine z_goto rfl ?_
              refine z_vret rfl rfl ?_
              show zW _ _ _ _ _ _ _ _ _ _
              refine z_aload rfl rfl ?_
              refine z_getI (v := (J 29 5) - 1) rfl rfl ((zU_n (by decide)).trans ((zU_x (by decide)).trans (zU_e))) ?_
              refine z_iret rfl rfl ?_
              refine ⟨?_, ?_⟩
              · first | rfl | exact congrArg (fun v => some (zi v)) (by omega) | (exfalso; omega)
              · exfalso
                omega
            · have hxhq5 : J 57 ((J 29 5) - 1) = 2 := hxhq5
              refine z_aload rfl rfl ?_
              refine z_getR (r := 53) rfl rfl (hRr _ rm_50_4 (by decide)) ?_
              refine z_iload rfl rfl ?_
              refine z_iload rfl rfl ?_
              refine z_iast (e := J 59 ((J 29 5) - 1)) rfl rfl (by decide) (by omega) rfl ?_
              refine z_goto rfl ?_
              refine z_vret rfl rfl ?_
              show zW _ _ _ _ _ _ _ _ _ _
              refine z_aload rfl rfl ?_
              refine z_getI (v := (J 29 5) - 1) rfl rfl ((zU_n (by decide)).trans ((zU_x (by decide)).trans (zU_e))) ?_
              refine z_iret rfl rfl ?_
              refine ⟨?_, ?_⟩
              · first | rfl | exact congrArg (fun v => some (zi v)) (by omega) | (exfalso; omega)
              · exfalso
                omega
            · have hxhq5 : J 57 ((J 29 5) - 1) = 3 := hxhq5
              refine z_aload rfl rfl ?_
              refine z_getR (r := 54) rfl rfl (hRr _ rm_50_5 (by decide)) ?_
              refine z_iload rfl rfl ?_
              refine z_iload rfl rfl ?_
              refine z_iast (e := J 59 ((J 29 5) - 1)) rfl rfl (by decide) (by omega) rfl ?_
              refine z_goto rfl ?_
              refine z_vret rfl rfl ?_
              show zW _ _ _ _ _ _ _ _ _ _
              refine z_aload rfl rfl ?_
              refine z_getI (v := (J 29 5) - 1) rfl rfl ((zU_n (by decide)).trans ((zU_x (by decide)).trans (zU_e))) ?_
              refine z_iret rfl rfl ?_
              refine ⟨?_, ?_⟩
              · first | rfl | exact congrArg (fun v => some (zi v)) (by omega) | (exfalso; omega)
              · exfalso
                omega
            · have hxhq5 : J 57 ((J 29 5) - 1) = 4 := hxhq5
              refine z_aload rfl rfl ?_
              refine z_getR (r := 55) rfl rfl (hRr _ rm_50_6 (by decide)) ?_
              refine z_iload rfl rfl ?_
              refine z_iload rfl rfl ?_
              refine z_iast (e := J 59 ((J 29 5) - 1)) rfl rfl (by decide) (by omega) rfl ?_
              refine z_goto rfl ?_
              refine z_vret rfl rfl ?_
              show zW _ _ _ _ _ _ _ _ _ _
              refine z_aload rfl rfl ?_
              refine z_getI (v := (J 29 5) - 1) rfl rfl ((zU_n (by decide)).trans ((zU_x (by decide)).trans (zU_e))) ?_
              refine z_iret rfl rfl ?_
              refine ⟨?_, ?_⟩
              · first | rfl | exact congrArg (fun v => some (zi v)) (by omega) | (exfalso; omega)
              · exfalso
                omega
          · have hq5 : ∀ q ∈ [((0 : Int), 36), ((1 : Int), 46), ((2 : Int), 56), ((3 : Int), 66), ((4 : Int), 76)], ¬ J 57 ((J 29 5) - 1) = q.1 := hq5
            have hq5_0 : ¬ J 57 ((J 29 5) - 1) = 0 := hq5 (0, 36) (by simp)
            have hq5_1 : ¬ J 57 ((J 29 5) - 1) = 1 := hq5 (1, 46) (by simp)
            have hq5_2 : ¬ J 57 ((J 29 5) - 1) = 2 := hq5 (2, 56) (by simp)
            have hq5_3 : ¬ J 57 ((J 29 5) - 1) = 3 := hq5 (3, 66) (by simp)
            have hq5_4 : ¬ J 57 ((J 29 5) - 1) = 4 := hq5 (4, 76) (by simp)
            refine z_aload rfl rfl ?_
            refine z_getR (r := 56) rfl rfl (hRr _ rm_50_7 (by decide)) ?_
            refine z_iload rfl rfl ?_
            refine z_pushI (z := 5) rfl rfl ?_
            refine z_isub (e := (J 57 ((J 29 5) - 1)) - 5) rfl rfl ?_
            refine z_iload rfl rfl ?_
            refine z_iast (e := J 59 ((J 29 5) - 1)) rfl rfl (by decide) (by omega) rfl ?_
            refine z_vret rfl rfl ?_
            show zW _ _ _ _ _ _ _ _ _ _
            refine z_aload rfl rfl ?_
            refine z_getI (v := (J 29 5) - 1) rfl rfl ((zU_n (by decide)).trans ((zU_x (by decide)).trans (zU_e))) ?_
            refine z_iret rfl rfl ?_
            refine ⟨?_, ?_⟩
            · first | rfl | exact congrArg (fun v => some (zi v)) (by omega) | (exfalso; omega)
            · exfalso
              omega
        · refine z_pushI (z := 40) rfl rfl ?_
          refine z_iload rfl rfl ?_
          refine z_iadd (e := 40 + (J 31 ((J 29 5) - 1))) rfl rfl ?_
          refine z_goto rfl ?_
          refine z_iret rfl rfl ?_
          show zW _ _ _ _ _ _ _ _ _ _
          refine z_istore rfl rfl ?_
          refine z_iload rfl rfl ?_
          refine z_if_lt rfl (by omega) (fun h5 => ?_) (fun h5 => ?_)
          · refine z_vret rfl rfl ?_
            show zW _ _ _ _ _ _ _ _ _ _
            refine z_pushI (z := 1) rfl rfl ?_
            refine z_bret rfl rfl (by decide) ?_
            show zW _ _ _ _ _ _ _ _ _ _
            refine z_if_eqF rfl (by decide) (by decide) ?_
            refine z_aload rfl rfl ?_
            refine z_getR (r := 29) rfl rfl (hR _ rm_0_9) ?_
            refine z_getI (v := (J 29 5) - 1) rfl rfl (zU_e) ?_
            refine z_goto rfl ?_
            refine z_iret rfl rfl ?_
            refine ⟨_, rfl, ?_⟩
            show zW _ _ _ _ [some (.ref 50)] _ _ _ _ _
            refine z_aload rfl rfl ?_
            refine z_getI (v := J 29 5) rfl rfl ((zU_n (by decide)).trans (c1.symm)) ?_
            refine z_if_neT rfl (by omega) (by omega) ?_
            refine z_aload rfl rfl ?_
            refine z_dup rfl rfl ?_
            refine z_getI (v := J 29 5) rfl rfl ((zU_n (by decide)).trans (c1.symm)) ?_
            refine z_pushI (z := 1) rfl rfl ?_
            refine z_isub (e := (J 29 5) - 1) rfl rfl ?_
            refine z_putI (y := 8) rfl rfl rfl ?_
            refine z_aload rfl rfl ?_
            refine z_dup rfl rfl ?_
            refine z_getI (v := J 50 9) rfl rfl ((zU_x (by decide)).trans ((zU_n (by decide)).trans (rfl))) ?_
            refine z_pushI (z := 1) rfl rfl ?_
            refine z_iadd (e := (J 50 9) + 1) rfl rfl ?_
            refine z_putI (y := 9) rfl rfl rfl ?_
            refine z_aload rfl rfl ?_
            refine z_aload rfl rfl ?_
            refine z_getR (r := 57) rfl rfl (hRr _ rm_50_10 (by decide)) ?_
            refine z_aload rfl rfl ?_
            refine z_getI (v := (J 29 5) - 1) rfl rfl ((zU_x (by decide)).trans (zU_e)) ?_
            refine z_iald (v := J 57 ((J 29 5) - 1)) rfl rfl (by decide) (by omega) ((zU_n (by decide)).trans ((zU_n (by decide)).trans ((zU_n (by decide)).trans (rfl)))) ?_
            refine z_aload rfl rfl ?_
            refine z_getR (r := 58) rfl rfl (hRr _ rm_50_11 (by decide)) ?_
            refine z_aload rfl rfl ?_
            refine z_getI (v := (J 29 5) - 1) rfl rfl ((zU_x (by decide)).trans (zU_e)) ?_
            refine z_iald (v := J 58 ((J 29 5) - 1)) rfl rfl (by decide) (by omega) ((zU_n (by decide)).trans ((zU_n (by decide)).trans ((zU_n (by decide)).trans (rfl)))) ?_
            refine z_aload rfl rfl ?_
            refine z_getR (r := 59) rfl rfl (hRr _ rm_50_12 (by decide)) ?_
            refine z_aload rfl rfl ?_
            refine z_getI (v := (J 29 5) - 1) rfl rfl ((zU_x (by decide)).trans (zU_e)) ?_
            refine z_iald (v := J 59 ((J 29 5) - 1)) rfl rfl (by decide) (by omega) ((zU_n (by decide)).trans ((zU_n (by decide)).trans ((zU_n (by decide)).trans (rfl)))) ?_
            refine z_callVi (As := [_, _, _]) (le := [some _, some _, some _, some _]) rfl rfl rfl (Nat.le_of_ble_eq_true rfl) (Nat.le_of_ble_eq_true rfl) rfl ?_
            refine z_iload rfl rfl ?_
            refine z_sw (T := [((0 : Int), 36), ((1 : Int), 46), ((2 : Int), 56), ((3 : Int), 66), ((4 : Int), 76)]) rfl (by omega) rfl (fun q hq6 hxhq6 => ?_) (fun hq6 => ?_)
            · simp only [List.mem_cons, List.not_mem_nil, or_false] at hq6
              rcases hq6 with rfl | rfl | rfl | rfl | rfl
              · have hxhq6 : J 57 ((J 29 5) - 1) = 0 := hxhq6
                refine z_aload rfl rfl ?_
                refine z_getR (r := 51) rfl rfl (hRr _ rm_50_2 (by decide)) ?_
                refine z_iload rfl rfl ?_
                refine z_iload rfl rfl ?_
                refine z_iast (e := J 59 ((J 29 5) - 1)) rfl rfl (by decide) (by omega) rfl ?_
                refine z_goto rfl ?_
                refine z_vret rfl rfl ?_
                show zW _ _ _ _ _ _ _ _ _ _
                refine z_aload rfl rfl ?_
                refine z_getI (v := (J 29 5) - 1) rfl rfl ((zU_n (by decide)).trans ((zU_x (by decide)).trans (zU_e))) ?_
                refine z_iret rfl rfl ?_
                refine ⟨?_, ?_⟩
                · first | rfl | exact congrArg (fun v => some (zi v)) (by omega) | (exfalso; omega)
                · exfalso
                  omega
              · have hxhq6 : J 57 ((J 29 5) - 1) = 1 := hxhq6
                refine z_aload rfl rfl ?_
                refine z_getR (r := 52) rfl rfl (hRr _ rm_50_3 (by decide)) ?_
                refine z_iload rfl rfl ?_
                refine z_iload rfl rfl ?_
                refine z_iast (e := J 59 ((J 29 5) - 1)) rfl rfl (by decide) (by omega) rfl ?_
                refine z_goto rfl ?_
                refine z_vret rfl rfl ?_
                show zW _ _ _ _ _ _ _ _ _ _
                refine z_aload rfl rfl ?_
                refine z_getI (v := (J 29 5) - 1) rfl rfl ((zU_n (by decide)).trans ((zU_x (by decide)).trans (zU_e))) ?_
                refine z_iret rfl rfl ?_
                refine ⟨?_, ?_⟩
                · first | rfl | exact congrArg (fun v => some (zi v)) (by omega) | (exfalso; omega)
                · exfalso
                  omega
              · have hxhq6 : J 57 ((J 29 5) - 1) = 2 := hxhq6
                refine z_aload rfl rfl ?_
                refine z_getR (r := 53) rfl rfl (hRr _ rm_50_4 (by decide)) ?_
                refine z_iload rfl rfl ?_
                refine z_iload rfl rfl ?_
                refine z_iast (e := J 59 ((J 29 5) - 1)) rfl rfl (by decide) (by omega) rfl ?_
                refine z_goto rfl ?_
                refine z_vret rfl rfl ?_
                show zW _ _ _ _ _ _ _ _ _ _
                refine z_aload rfl rfl ?_
                refine z_getI (v := (J 29 5) - 1) rfl rfl ((zU_n (by decide)).trans ((zU_x (by decide)).trans (zU_e))) ?_
                refine z_iret rfl rfl ?_
                refine ⟨?_, ?_⟩
                · first | rfl | exact congrArg (fun v => some (zi v)) (by omega) | (exfalso; omega)
                · exfalso
                  omega
              · have hxhq6 : J 57 ((J 29 5) - 1) = 3 := hxhq6
                refine z_aload rfl rfl ?_
                refine z_getR (r := 54) rfl rfl (hRr _ rm_50_5 (by decide)) ?_
                refine z_iload rfl rfl ?_
                refine z_iload rfl rfl ?_
                refine z_iast (e := J 59 ((J 29 5) - 1)) rfl rfl (by decide) (by omega) rfl ?_
                refine z_goto rfl ?_
                refine z_vret rfl rfl ?_
                show zW _ _ _ _ _ _ _ _ _ _
                refine z_aload rfl rfl ?_
                refine z_getI (v := (J 29 5) - 1) rfl rfl ((zU_n (by decide)).trans ((zU_x (by decide)).trans (zU_e))) ?_
                refine z_iret rfl rfl ?_
                refine ⟨?_, ?_⟩
                · first | rfl | exact congrArg (fun v => some (zi v)) (by omega) | (exfalso; omega)
                · exfalso
                  omega
              · have hxhq6 : J 57 ((J 29 5) - 1) = 4 := hxhq6
                refine z_aload rfl rfl ?_
                refine z_getR (r := 55) rfl rfl (hRr _ rm_50_6 (by decide)) ?_
                refine z_iload rfl rfl ?_
                refine z_iload rfl rfl ?_
                refine z_iast (e := J 59 ((J 29 5) - 1)) rfl rfl (by decide) (by omega) rfl ?_
                refine z_goto rfl ?_
                refine z_vret rfl rfl ?_
                show zW _ _ _ _ _ _ _ _ _ _
                refine z_aload rfl rfl ?_
                refine z_getI (v := (J 29 5) - 1) rfl rfl ((zU_n (by decide)).trans ((zU_x (by decide)).trans (zU_e))) ?_
                refine z_iret rfl rfl ?_
                refine ⟨?_, ?_⟩
                · first | rfl | exact congrArg (fun v => some (zi v)) (by omega) | (exfalso; omega)
                · exfalso
                  omega
            · have hq6 : ∀ q ∈ [((0 : Int), 36), ((1 : Int), 46), ((2 : Int), 56), ((3 : Int), 66), ((4 : Int), 76)], ¬ J 57 ((J 29 5) - 1) = q.1 := hq6
              have hq6_0 : ¬ J 57 ((J 29 5) - 1) = 0 := hq6 (0, 36) (by simp)
              have hq6_1 : ¬ J 57 ((J 29 5) - 1) = 1 := hq6 (1, 46) (by simp)
              have hq6_2 : ¬ J 57 ((J 29 5) - 1) = 2 := hq6 (2, 56) (by simp)
              have hq6_3 : ¬ J 57 ((J 29 5) - 1) = 3 := hq6 (3, 66) (by simp)
              have hq6_4 : ¬ J 57 ((J 29 5) - 1) = 4 := hq6 (4, 76) (by simp)
              refine z_aload rfl rfl ?_
              refine z_getR (r := 56) rfl rfl (hRr _ rm_50_7 (by decide)) ?_
              refine z_iload rfl rfl ?_
              refine z_pushI (z := 5) rfl rfl ?_
              refine z_isub (e := (J 57 ((J 29 5) - 1)) - 5) rfl rfl ?_
              refine z_iload rfl rfl ?_
              refine z_iast (e := J 59 ((J 29 5) - 1)) rfl rfl (by decide) (by omega) rfl ?_
              refine z_vret rfl rfl ?_
              show zW _ _ _ _ _ _ _ _ _ _
              refine z_aload rfl rfl ?_
              refine z_getI (v := (J 29 5) - 1) rfl rfl ((zU_n (by decide)).trans ((zU_x (by decide)).trans (zU_e))) ?_
              refine z_iret rfl rfl ?_
              refine ⟨?_, ?_⟩
              · first | rfl | exact congrArg (fun v => some (zi v)) (by omega) | (exfalso; omega)
              · exfalso
                omega
          · refine z_aload rfl rfl ?_
            refine z_getR (r := 9) rfl rfl (hR _ rm_8_1) ?_
            refine z_iload rfl rfl ?_
            refine z_iload rfl rfl ?_
            refine z_iast (e := J 32 ((J 29 5) - 1)) rfl rfl (by decide) (by omega) rfl ?_
            refine z_vret rfl rfl ?_
            show zW _ _ _ _ _ _ _ _ _ _
            refine z_pushI (z := 1) rfl rfl ?_
            refine z_bret rfl rfl (by decide) ?_
            show zW _ _ _ _ _ _ _ _ _ _
            refine z_if_eqF rfl (by decide) (by decide) ?_
            refine z_aload rfl rfl ?_
            refine z_getR (r := 29) rfl rfl (hR _ rm_0_9) ?_
            refine z_getI (v := (J 29 5) - 1) rfl rfl ((zU_n (by decide)).trans (zU_e)) ?_
            refine z_goto rfl ?_
            refine z_iret rfl rfl ?_
            refine ⟨_, rfl, ?_⟩
            show zW _ _ _ _ [some (.ref 50)] _ _ _ _ _
            refine z_aload rfl rfl ?_
            refine z_getI (v := J 29 5) rfl rfl ((zU_n (by decide)).trans ((zU_n (by decide)).trans (c1.symm))) ?_
            refine z_if_neT rfl (by omega) (by omega) ?_
            refine z_aload rfl rfl ?_
            refine z_dup rfl rfl ?_
            refine z_getI (v := J 29 5) rfl rfl ((zU_n (by decide)).trans ((zU_n (by decide)).trans (c1.symm))) ?_
            refine z_pushI (z := 1) rfl rfl ?_
            refine z_isub (e := (J 29 5) - 1) rfl rfl ?_
            refine z_putI (y := 8) rfl rfl rfl ?_
            refine z_aload rfl rfl ?_
            refine z_dup rfl rfl ?_
            refine z_getI (v := J 50 9) rfl rfl ((zU_x (by decide)).trans ((zU_n (by decide)).trans ((zU_n (by decide)).trans (rfl)))) ?_
            refine z_pushI (z := 1) rfl rfl ?_
            refine z_iadd (e := (J 50 9) + 1) rfl rfl ?_
            refine z_putI (y := 9) rfl rfl rfl ?_
            refine z_aload rfl rfl ?_
            refine z_aload rfl rfl ?_
            refine z_getR (r := 57) rfl rfl (hRr _ rm_50_10 (by decide)) ?_
            refine z_aload rfl rfl ?_
            refine z_getI (v := (J 29 5) - 1) rfl rfl ((zU_x (by decide)).trans (zU_e)) ?_
            refine z_iald (v := J 57 ((J 29 5) - 1)) rfl rfl (by decide) (by omega) ((zU_n (by decide)).trans ((zU_n (by decide)).trans ((zU_n (by decide)).trans ((zU_n (by decide)).trans (rfl))))) ?_
            refine z_aload rfl rfl ?_
            refine z_getR (r := 58) rfl rfl (hRr _ rm_50_11 (by decide)) ?_
            refine z_aload rfl rfl ?_
            refine z_getI (v := (J 29 5) - 1) rfl rfl ((zU_x (by decide)).trans (zU_e)) ?_
            refine z_iald (v := J 58 ((J 29 5) - 1)) rfl rfl (by decide) (by omega) ((zU_n (by decide)).trans ((zU_n (by decide)).trans ((zU_n (by decide)).trans ((zU_n (by decide)).trans (rfl))))) ?_
            refine z_aload rfl rfl ?_
            refine z_getR (r := 59) rfl rfl (hRr _ rm_50_12 (by decide)) ?_
            refine z_aload rfl rfl ?_
            refine z_getI (v := (J 29 5) - 1) rfl rfl ((zU_x (by decide)).trans (zU_e)) ?_
            refine z_iald (v := J 59 ((J 29 5) - 1)) rfl rfl (by decide) (by omega) ((zU_n (by decide)).trans ((zU_n (by decide)).trans ((zU_n (by decide)).trans ((zU_n (by decide)).trans (rfl))))) ?_
            refine z_callVi (As := [_, _, _]) (le := [some _, some _, some _, some _]) rfl rfl rfl (Nat.le_of_ble_eq_true rfl) (Nat.le_of_ble_eq_true rfl) rfl ?_
            refine z_iload rfl rfl ?_
            refine z_sw (T := [((0 : Int), 36), ((1 : Int), 46), ((2 : Int), 56), ((3 : Int), 66), ((4 : Int), 76)]) rfl (by omega) rfl (fun q hq6 hxhq6 => ?_) (fun hq6 => ?_)
            · simp only [List.mem_cons, List.not_mem_nil, or_false] at hq6
              rcases hq6 with rfl | rfl | rfl | rfl | rfl
              · have hxhq6 : J 57 ((J 29 5) - 1) = 0 := hxhq6
                refine z_aload rfl rfl ?_
                refine z_getR (r := 51) rfl rfl (hRr _ rm_50_2 (by decide)) ?_
                refine z_iload rfl rfl ?_
                refine z_iload rfl rfl ?_
                refine z_iast (e := J 59 ((J 29 5) - 1)) rfl rfl (by decide) (by omega) rfl ?_
                refine z_goto rfl ?_
                refine z_vret rfl rfl ?_
                show zW _ _ _ _ _ _ _ _ _ _
                refine z_aload rfl rfl ?_
                refine z_getI (v := (J 29 5) - 1) rfl rfl ((zU_n (by decide)).trans ((zU_x (by decide)).trans (zU_e))) ?_
                refine z_iret rfl rfl ?_
                refine ⟨?_, ?_⟩
                · first | rfl | exact congrArg (fun v => some (zi v)) (by omega) | (exfalso; omega)
                · have hs := (zK_u (a := 51) (x := J 58 ((J 29 5) - 1)) (v := J 59 ((J 29 5) - 1)) (zK_x (a := 50) (x := 9) (v := (J 50 9) + 1) (zK_x (a := 50) (x := 8) (v := (J 29 5) - 1) (zK_u (a := 9) (x := 40 + (J 31 ((J 29 5) - 1))) (v := J 32 ((J 29 5) - 1)) (zK_x (a := 29) (x := 5) (v := (J 29 5) - 1) (zK_r (k := (kL [] [(29, 5), (50, 8), (50, 9)])) (A := J)) rfl)) rfl) rfl))
                  have ev : J 59 ((J 29 5) - 1) = J 32 ((J 29 5) - 1) := by omega
                  have hY2 := RelY_k hs (by repeat' constructor) (fun p => by repeat' constructor) (by rw [ev]; exact RelY_p (p := J 30 (J 29 5 - 1)) (w := 0) hY (by omega) (by omega) (zFit_c hfit (by omega)) (by omega) rfl (by omega))
                  have hs2 := (zK_x (a := 51) (x := J 58 ((J 29 5) - 1)) (v := J 59 ((J 29 5) - 1)) (zK_u (a := 50) (x := 9) (v := (J 50 9) + 1) (zK_u (a := 50) (x := 8) (v := (J 29 5) - 1) (zK_x (a := 9) (x := 40 + (J 31 ((J 29 5) - 1))) (v := J 32 ((J 29 5) - 1)) (zK_u (a := 29) (x := 5) (v := (J 29 5) - 1) (zK_r (k := (kL [9, 51] [])) (A := J))) rfl))) rfl)
                  have hC2 := RelC_k hs2 (by repeat' constructor) (fun p => by repeat' constructor) (RelC_undo hC (by omega))
                  have hk := (zK_x (a := 51) (x := J 58 ((J 29 5) - 1)) (v := J 59 ((J 29 5) - 1)) (zK_x (a := 50) (x := 9) (v := (J 50 9) + 1) (zK_x (a := 50) (x := 8) (v := (J 29 5) - 1) (zK_x (a := 9) (x := 40 + (J 31 ((J 29 5) - 1))) (v := J 32 ((J 29 5) - 1)) (zK_x (a := 29) (x := 5) (v := (J 29 5) - 1) (zK_r (k := (kL [9, 51] [(29, 5), (50, 8), (50, 9)])) (A := J)) rfl) rfl) rfl) rfl) rfl)
                  exact ⟨hR, hG, hY2, RelD_k hk (by repeat' constructor) (fun p => by repeat' constructor) hD, RelP_k hk (by repeat' constructor) (fun p => by repeat' constructor) hP, hC2, RelA_k hk (by repeat' constructor) (fun p => by repeat' constructor) hAc, RelS_k hk (zK_r (k := kM)) (fun x j a b => ⟨kL_38 (by decide) (by decide) x j a b, kM_38 x j a b⟩) (fun p => ⟨rfl, rfl, rfl⟩) rfl hS, RelT_k hk (by repeat' constructor) (fun p => by repeat' constructor) hTp, RelX_k hk (by repeat' constructor) (fun p => by repeat' constructor) hX, RelW_k hk ⟨rfl, rfl⟩ trivial hW⟩
              · have hxhq6 : J 57 ((J 29 5) - 1) = 1 := hxhq6
                refine z_aload rfl rfl ?_
                refine z_getR (r := 52) rfl rfl (hRr _ rm_50_3 (by decide)) ?_
                refine z_iload rfl rfl ?_
                refine z_iload rfl rfl ?_
                refine z_iast (e := J 59 ((J 29 5) - 1)) rfl rfl (by decide) (by omega) rfl ?_
                refine z_goto rfl ?_
                refine z_vret rfl rfl ?_
                show zW _ _ _ _ _ _ _ _ _ _
                refine z_aload rfl rfl ?_
                refine z_getI (v := (J 29 5) - 1) rfl rfl ((zU_n (by decide)).trans ((zU_x (by decide)).trans (zU_e))) ?_
                refine z_iret rfl rfl ?_
                refine ⟨?_, ?_⟩
                · first | rfl | exact congrArg (fun v => some (zi v)) (by omega) | (exfalso; omega)
                · have hs := (zK_u (a := 52) (x := J 58 ((J 29 5) - 1)) (v := J 59 ((J 29 5) - 1)) (zK_x (a := 50) (x := 9) (v := (J 50 9) + 1) (zK_x (a := 50) (x := 8) (v := (J 29 5) - 1) (zK_u (a := 9) (x := 40 + (J 31 ((J 29 5) - 1))) (v := J 32 ((J 29 5) - 1)) (zK_x (a := 29) (x := 5) (v := (J 29 5) - 1) (zK_r (k := (kL [] [(29, 5), (50, 8), (50, 9)])) (A := J)) rfl)) rfl) rfl))
                  have ev : J 59 ((J 29 5) - 1) = J 32 ((J 29 5) - 1) := by omega
                  have hY2 := RelY_k hs (by repeat' constructor) (fun p => by repeat' constructor) (by rw [ev]; exact RelY_p (p := J 30 (J 29 5 - 1)) (w := 1) hY (by omega) (by omega) (zFit_c hfit (by omega)) (by omega) rfl (by omega))
                  have hs2 := (zK_x (a := 52) (x := J 58 ((J 29 5) - 1)) (v := J 59 ((J 29 5) - 1)) (zK_u (a := 50) (x := 9) (v := (J 50 9) + 1) (zK_u (a := 50) (x := 8) (v := (J 29 5) - 1) (zK_x (a := 9) (x := 40 + (J 31 ((J 29 5) - 1))) (v := J 32 ((J 29 5) - 1)) (zK_u (a := 29) (x := 5) (v := (J 29 5) - 1) (zK_r (k := (kL [9, 52] [])) (A := J))) rfl))) rfl)
                  have hC2 := RelC_k hs2 (by repeat' constructor) (fun p => by repeat' constructor) (RelC_undo hC (by omega))
                  have hk := (zK_x (a := 52) (x := J 58 ((J 29 5) - 1)) (v := J 59 ((J 29 5) - 1)) (zK_x (a := 50) (x := 9) (v := (J 50 9) + 1) (zK_x (a := 50) (x := 8) (v := (J 29 5) - 1) (zK_x (a := 9) (x := 40 + (J 31 ((J 29 5) - 1))) (v := J 32 ((J 29 5) - 1)) (zK_x (a := 29) (x := 5) (v := (J 29 5) - 1) (zK_r (k := (kL [9, 52] [(29, 5), (50, 8), (50, 9)])) (A := J)) rfl) rfl) rfl) rfl) rfl)
                  exact ⟨hR, hG, hY2, RelD_k hk (by repeat' constructor) (fun p => by repeat' constructor) hD, RelP_k hk (by repeat' constructor) (fun p => by repeat' constructor) hP, hC2, RelA_k hk (by repeat' constructor) (fun p => by repeat' constructor) hAc, RelS_k hk (zK_r (k := kM)) (fun x j a b => ⟨kL_38 (by decide) (by decide) x j a b, kM_38 x j a b⟩) (fun p => ⟨rfl, rfl, rfl⟩) rfl hS, RelT_k hk (by repeat' constructor) (fun p => by repeat' constructor) hTp, RelX_k hk (by repeat' constructor) (fun p => by repeat' constructor) hX, RelW_k hk ⟨rfl, rfl⟩ trivial hW⟩
              · have hxhq6 : J 57 ((J 29 5) - 1) = 2 := hxhq6
                refine z_aload rfl rfl ?_
                refine z_getR (r := 53) rfl rfl (hRr _ rm_50_4 (by decide)) ?_
                refine z_iload rfl rfl ?_
                refine z_iload rfl rfl ?_
                refine z_iast (e := J 59 ((J 29 5) - 1)) rfl rfl (by decide) (by omega) rfl ?_
                refine z_goto rfl ?_
                refine z_vret rfl rfl ?_
                show zW _ _ _ _ _ _ _ _ _ _
                refine z_aload rfl rfl ?_
                refine z_getI (v := (J 29 5) - 1) rfl rfl ((zU_n (by decide)).trans ((zU_x (by decide)).trans (zU_e))) ?_
                refine z_iret rfl rfl ?_
                refine ⟨?_, ?_⟩
                · first | rfl | exact congrArg (fun v => some (zi v)) (by omega) | (exfalso; omega)
                · have hs := (zK_u (a := 53) (x := J 58 ((J 29 5) - 1)) (v := J 59 ((J 29 5) - 1)) (zK_x (a := 50) (x := 9) (v := (J 50 9) + 1) (zK_x (a := 50) (x := 8) (v := (J 29 5) - 1) (zK_u (a := 9) (x := 40 + (J 31 ((J 29 5) - 1))) (v := J 32 ((J 29 5) - 1)) (zK_x (a := 29) (x := 5) (v := (J 29 5) - 1) (zK_r (k := (kL [] [(29, 5), (50, 8), (50, 9)])) (A := J)) rfl)) rfl) rfl))
                  have ev : J 59 ((J 29 5) - 1) = J 32 ((J 29 5) - 1) := by omega
                  have hY2 := RelY_k hs (by repeat' constructor) (fun p => by repeat' constructor) (by rw [ev]; exact RelY_p (p := J 30 (J 29 5 - 1)) (w := 2) hY (by omega) (by omega) (zFit_c hfit (by omega)) (by omega) rfl (by omega))
                  have hs2 := (zK_x (a := 53) (x := J 58 ((J 29 5) - 1)) (v := J 59 ((J 29 5) - 1)) (zK_u (a := 50) (x := 9) (v := (J 50 9) + 1) (zK_u (a := 50) (x := 8) (v := (J 29 5) - 1) (zK_x (a := 9) (x := 40 + (J 31 ((J 29 5) - 1))) (v := J 32 ((J 29 5) - 1)) (zK_u (a := 29) (x := 5) (v := (J 29 5) - 1) (zK_r (k := (kL [9, 53] [])) (A := J))) rfl))) rfl)
                  have hC2 := RelC_k hs2 (by repeat' constructor) (fun p => by repeat' constructor) (RelC_undo hC (by omega))
                  have hk := (zK_x (a := 53) (x := J 58 ((J 29 5) - 1)) (v := J 59 ((J 29 5) - 1)) (zK_x (a := 50) (x := 9) (v := (J 50 9) + 1) (zK_x (a := 50) (x := 8) (v := (J 29 5) - 1) (zK_x (a := 9) (x := 40 + (J 31 ((J 29 5) - 1))) (v := J 32 ((J 29 5) - 1)) (zK_x (a := 29) (x := 5) (v := (J 29 5) - 1) (zK_r (k := (kL [9, 53] [(29, 5), (50, 8), (50, 9)])) (A := J)) rfl) rfl) rfl) rfl) rfl)
                  exact ⟨hR, hG, hY2, RelD_k hk (by repeat' constructor) (fun p => by repeat' constructor) hD, RelP_k hk (by repeat' constructor) (fun p => by repeat' constructor) hP, hC2, RelA_k hk (by repeat' constructor) (fun p => by repeat' constructor) hAc, RelS_k hk (zK_r (k := kM)) (fun x j a b => ⟨kL_38 (by decide) (by decide) x j a b, kM_38 x j a b⟩) (fun p => ⟨rfl, rfl, rfl⟩) rfl hS, RelT_k hk (by repeat' constructor) (fun p => by repeat' constructor) hTp, RelX_k hk (by repeat' constructor) (fun p => by repeat' constructor) hX, RelW_k hk ⟨rfl, rfl⟩ trivial hW⟩
              · have hxhq6 : J 57 ((J 29 5) - 1) = 3 := hxhq6
                refine z_aload rfl rfl ?_
                refine z_getR (r := 54) rfl rfl (hRr _ rm_50_5 (by decide)) ?_
                refine z_iload rfl rfl ?_
                refine z_iload rfl rfl ?_
                refine z_iast (e := J 59 ((J 29 5) - 1)) rfl rfl (by decide) (by omega) rfl ?_
                refine z_goto rfl ?_
                refine z_vret rfl rfl ?_
                show zW _ _ _ _ _ _ _ _ _ _
                refine z_aload rfl rfl ?_
                refine z_getI (v := (J 29 5) - 1) rfl rfl ((zU_n (by decide)).trans ((zU_x (by decide)).trans (zU_e))) ?_
                refine z_iret rfl rfl ?_
                refine ⟨?_, ?_⟩
                · first | rfl | exact congrArg (fun v => some (zi v)) (by omega) | (exfalso; omega)
                · have hs := (zK_u (a := 54) (x := J 58 ((J 29 5) - 1)) (v := J 59 ((J 29 5) - 1)) (zK_x (a := 50) (x := 9) (v := (J 50 9) + 1) (zK_x (a := 50) (x := 8) (v := (J 29 5) - 1) (zK_u (a := 9) (x := 40 + (J 31 ((J 29 5) - 1))) (v := J 32 ((J 29 5) - 1)) (zK_x (a := 29) (x := 5) (v := (J 29 5) - 1) (zK_r (k := (kL [] [(29, 5), (50, 8), (50, 9)])) (A := J)) rfl)) rfl) rfl))
                  have ev : J 59 ((J 29 5) - 1) = J 32 ((J 29 5) - 1) := by omega
                  have hY2 := RelY_k hs (by repeat' constructor) (fun p => by repeat' constructor) (by rw [ev]; exact RelY_p (p := J 30 (J 29 5 - 1)) (w := 3) hY (by omega) (by omega) (zFit_c hfit (by omega)) (by omega) rfl (by omega))
                  have hs2 := (zK_x (a := 54) (x := J 58 ((J 29 5) - 1)) (v := J 59 ((J 29 5) - 1)) (zK_u (a := 50) (x := 9) (v := (J 50 9) + 1) (zK_u (a := 50) (x := 8) (v := (J 29 5) - 1) (zK_x (a := 9) (x := 40 + (J 31 ((J 29 5) - 1))) (v := J 32 ((J 29 5) - 1)) (zK_u (a := 29) (x := 5) (v := (J 29 5) - 1) (zK_r (k := (kL [9, 54] [])) (A := J))) rfl))) rfl)
                  have hC2 := RelC_k hs2 (by repeat' constructor) (fun p => by repeat' constructor) (RelC_undo hC (by omega))
                  have hk := (zK_x (a := 54) (x := J 58 ((J 29 5) - 1)) (v := J 59 ((J 29 5) - 1)) (zK_x (a := 50) (x := 9) (v := (J 50 9) + 1) (zK_x (a := 50) (x := 8) (v := (J 29 5) - 1) (zK_x (a := 9) (x := 40 + (J 31 ((J 29 5) - 1))) (v := J 32 ((J 29 5) - 1)) (zK_x (a := 29) (x := 5) (v := (J 29 5) - 1) (zK_r (k := (kL [9, 54] [(29, 5), (50, 8), (50, 9)])) (A := J)) rfl) rfl) rfl) rfl) rfl)
                  exact ⟨hR, hG, hY2, RelD_k hk (by repeat' constructor) (fun p => by repeat' constructor) hD, RelP_k hk (by repeat' constructor) (fun p => by repeat' constructor) hP, hC2, RelA_k hk (by repeat' constructor) (fun p => by repeat' constructor) hAc, RelS_k hk (zK_r (k := kM)) (fun x j a b => ⟨kL_38 (by decide) (by decide) x j a b, kM_38 x j a b⟩) (fun p => ⟨rfl, rfl, rfl⟩) rfl hS, RelT_k hk (by repeat' constructor) (fun p => by repeat' constructor) hTp, RelX_k hk (by repeat' constructor) (fun p => by repeat' constructor) hX, RelW_k hk ⟨rfl, rfl⟩ trivial hW⟩
              · have hxhq6 : J 57 ((J 29 5) - 1) = 4 := hxhq6
                refine z_aload rfl rfl ?_
                refine z_getR (r := 55) rfl rfl (hRr _ rm_50_6 (by decide)) ?_
                refine z_iload rfl rfl ?_
                refine z_iload rfl rfl ?_
                refine z_iast (e := J 59 ((J 29 5) - 1)) rfl rfl (by decide) (by omega) rfl ?_
                refine z_goto rfl ?_
                refine z_vret rfl rfl ?_
                show zW _ _ _ _ _ _ _ _ _ _
                refine z_aload rfl rfl ?_
                refine z_getI (v := (J 29 5) - 1) rfl rfl ((zU_n (by decide)).trans ((zU_x (by decide)).trans (zU_e))) ?_
                refine z_iret rfl rfl ?_
                refine ⟨?_, ?_⟩
                · first | rfl | exact congrArg (fun v => some (zi v)) (by omega) | (exfalso; omega)
                · have hs := (zK_u (a := 55) (x := J 58 ((J 29 5) - 1)) (v := J 59 ((J 29 5) - 1)) (zK_x (a := 50) (x := 9) (v := (J 50 9) + 1) (zK_x (a := 50) (x := 8) (v := (J 29 5) - 1) (zK_u (a := 9) (x := 40 + (J 31 ((J 29 5) - 1))) (v := J 32 ((J 29 5) - 1)) (zK_x (a := 29) (x := 5) (v := (J 29 5) - 1) (zK_r (k := (kL [] [(29, 5), (50, 8), (50, 9)])) (A := J)) rfl)) rfl) rfl))
                  have ev : J 59 ((J 29 5) - 1) = J 32 ((J 29 5) - 1) := by omega
                  have hY2 := RelY_k hs (by repeat' constructor) (fun p => by repeat' constructor) (by rw [ev]; exact RelY_p (p := J 30 (J 29 5 - 1)) (w := 4) hY (by omega) (by omega) (zFit_c hfit (by omega)) (by omega) rfl (by omega))
                  have hs2 := (zK_x (a := 55) (x := J 58 ((J 29 5) - 1)) (v := J 59 ((J 29 5) - 1)) (zK_u (a := 50) (x := 9) (v := (J 50 9) + 1) (zK_u (a := 50) (x := 8) (v := (J 29 5) - 1) (zK_x (a := 9) (x := 40 + (J 31 ((J 29 5) - 1))) (v := J 32 ((J 29 5) - 1)) (zK_u (a := 29) (x := 5) (v := (J 29 5) - 1) (zK_r (k := (kL [9, 55] [])) (A := J))) rfl))) rfl)
                  have hC2 := RelC_k hs2 (by repeat' constructor) (fun p => by repeat' constructor) (RelC_undo hC (by omega))
                  have hk := (zK_x (a := 55) (x := J 58 ((J 29 5) - 1)) (v := J 59 ((J 29 5) - 1)) (zK_x (a := 50) (x := 9) (v := (J 50 9) + 1) (zK_x (a := 50) (x := 8) (v := (J 29 5) - 1) (zK_x (a := 9) (x := 40 + (J 31 ((J 29 5) - 1))) (v := J 32 ((J 29 5) - 1)) (zK_x (a := 29) (x := 5) (v := (J 29 5) - 1) (zK_r (k := (kL [9, 55] [(29, 5), (50, 8), (50, 9)])) (A := J)) rfl) rfl) rfl) rfl) rfl)
                  exact ⟨hR, hG, hY2, RelD_k hk (by repeat' constructor) (fun p => by repeat' constructor) hD, RelP_k hk (by repeat' constructor) (fun p => by repeat' constructor) hP, hC2, RelA_k hk (by repeat' constructor) (fun p => by repeat' constructor) hAc, RelS_k hk (zK_r (k := kM)) (fun x j a b => ⟨kL_38 (by decide) (by decide) x j a b, kM_38 x j a b⟩) (fun p => ⟨rfl, rfl, rfl⟩) rfl hS, RelT_k hk (by repeat' constructor) (fun p => by repeat' constructor) hTp, RelX_k hk (by repeat' constructor) (fun p => by repeat' constructor) hX, RelW_k hk ⟨rfl, rfl⟩ trivial hW⟩
            · have hq6 : ∀ q ∈ [((0 : Int), 36), ((1 : Int), 46), ((2 : Int), 56), ((3 : Int), 66), ((4 : Int), 76)], ¬ J 57 ((J 29 5) - 1) = q.1 := hq6
              have hq6_0 : ¬ J 57 ((J 29 5) - 1) = 0 := hq6 (0, 36) (by simp)
              have hq6_1 : ¬ J 57 ((J 29 5) - 1) = 1 := hq6 (1, 46) (by simp)
              have hq6_2 : ¬ J 57 ((J 29 5) - 1) = 2 := hq6 (2, 56) (by simp)
              have hq6_3 : ¬ J 57 ((J 29 5) - 1) = 3 := hq6 (3, 66) (by simp)
              have hq6_4 : ¬ J 57 ((J 29 5) - 1) = 4 := hq6 (4, 76) (by simp)
              refine z_aload rfl rfl ?_
              refine z_getR (r := 56) rfl rfl (hRr _ rm_50_7 (by decide)) ?_
              refine z_iload rfl rfl ?_
              refine z_pushI (z := 5) rfl rfl ?_
              refine z_isub (e := (J 57 ((J 29 5) - 1)) - 5) rfl rfl ?_
              refine z_iload rfl rfl ?_
              refine z_iast (e := J 59 ((J 29 5) - 1)) rfl rfl (by decide) (by omega) rfl ?_
              refine z_vret rfl rfl ?_
              show zW _ _ _ _ _ _ _ _ _ _
              refine z_aload rfl rfl ?_
              refine z_getI (v := (J 29 5) - 1) rfl rfl ((zU_n (by decide)).trans ((zU_x (by decide)).trans (zU_e))) ?_
              refine z_iret rfl rfl ?_
              refine ⟨?_, ?_⟩
              · first | rfl | exact congrArg (fun v => some (zi v)) (by omega) | (exfalso; omega)
              · have hs := (zK_u (a := 56) (x := (J 57 ((J 29 5) - 1)) - 5) (v := J 59 ((J 29 5) - 1)) (zK_x (a := 50) (x := 9) (v := (J 50 9) + 1) (zK_x (a := 50) (x := 8) (v := (J 29 5) - 1) (zK_u (a := 9) (x := 40 + (J 31 ((J 29 5) - 1))) (v := J 32 ((J 29 5) - 1)) (zK_x (a := 29) (x := 5) (v := (J 29 5) - 1) (zK_r (k := (kL [] [(29, 5), (50, 8), (50, 9)])) (A := J)) rfl)) rfl) rfl))
                have ev : J 59 ((J 29 5) - 1) = J 32 ((J 29 5) - 1) := by omega
                have hY2 := RelY_k hs (by repeat' constructor) (fun p => by repeat' constructor) (by rw [ev]; exact RelY_g (w := J 31 (J 29 5 - 1)) hY (by omega) hfit (by omega) (by omega))
                have hs2 := (zK_x (a := 56) (x := (J 57 ((J 29 5) - 1)) - 5) (v := J 59 ((J 29 5) - 1)) (zK_u (a := 50) (x := 9) (v := (J 50 9) + 1) (zK_u (a := 50) (x := 8) (v := (J 29 5) - 1) (zK_x (a := 9) (x := 40 + (J 31 ((J 29 5) - 1))) (v := J 32 ((J 29 5) - 1)) (zK_u (a := 29) (x := 5) (v := (J 29 5) - 1) (zK_r (k := (kL [9, 56] [])) (A := J))) rfl))) rfl)
                have hC2 := RelC_k hs2 (by repeat' constructor) (fun p => by repeat' constructor) (RelC_undo hC (by omega))
                have hk := (zK_x (a := 56) (x := (J 57 ((J 29 5) - 1)) - 5) (v := J 59 ((J 29 5) - 1)) (zK_x (a := 50) (x := 9) (v := (J 50 9) + 1) (zK_x (a := 50) (x := 8) (v := (J 29 5) - 1) (zK_x (a := 9) (x := 40 + (J 31 ((J 29 5) - 1))) (v := J 32 ((J 29 5) - 1)) (zK_x (a := 29) (x := 5) (v := (J 29 5) - 1) (zK_r (k := (kL [9, 56] [(29, 5), (50, 8), (50, 9)])) (A := J)) rfl) rfl) rfl) rfl) rfl)
                exact ⟨hR, hG, hY2, RelD_k hk (by repeat' constructor) (fun p => by repeat' constructor) hD, RelP_k hk (by repeat' constructor) (fun p => by repeat' constructor) hP, hC2, RelA_k hk (by repeat' constructor) (fun p => by repeat' constructor) hAc, RelS_k hk (zK_r (k := kM)) (fun x j a b => ⟨kL_38 (by decide) (by decide) x j a b, kM_38 x j a b⟩) (fun p => ⟨rfl, rfl, rfl⟩) rfl hS, RelT_k hk (by repeat' constructor) (fun p => by repeat' constructor) hTp, RelX_k hk (by repeat' constructor) (fun p => by repeat' constructor) hX, RelW_k hk ⟨rfl, rfl⟩ trivial hW⟩
      · refine z_aload rfl rfl ?_
        refine z_iload rfl rfl ?_
        refine z_callVi (As := [_]) (le := [some _, some _]) rfl rfl rfl (Nat.le_of_ble_eq_true rfl) (Nat.le_of_ble_eq_true rfl) rfl ?_
        refine z_iload rfl rfl ?_
        refine z_if_lt rfl (by omega) (fun h6 => ?_) (fun h6 => ?_)
        · refine z_pushI (z := 0) rfl rfl ?_
          refine z_bret rfl rfl (by decide) ?_
          show zW _ _ _ _ _ _ _ _ _ _
          refine z_if_eqT rfl (by decide) (by decide) ?_
          refine z_pushI (z := (-1)) rfl rfl ?_
          refine z_iret rfl rfl ?_
          show zW _ _ _ _ _ _ _ _ _ _
          refine z_istore rfl rfl ?_
          refine z_iload rfl rfl ?_
          refine z_if_ltT rfl (by decide) (by decide) ?_
          refine z_vret rfl rfl ?_
          show zW _ _ _ _ _ _ _ _ _ _
          refine z_pushI (z := 1) rfl rfl ?_
          refine z_bret rfl rfl (by decide) ?_
          show zW _ _ _ _ _ _ _ _ _ _
          refine z_if_eqF rfl (by decide) (by decide) ?_
          refine z_aload rfl rfl ?_
          refine z_getR (r := 29) rfl rfl (hR _ rm_0_9) ?_
          refine z_getI (v := (J 29 5) - 1) rfl rfl (zU_e) ?_
          refine z_goto rfl ?_
          refine z_iret rfl rfl ?_
          refine ⟨_, rfl, ?_⟩
          show zW _ _ _ _ [some (.ref 50)] _ _ _ _ _
          refine z_aload rfl rfl ?_
          refine z_getI (v := J 29 5) rfl rfl ((zU_n (by decide)).trans (c1.symm)) ?_
          refine z_if_neT rfl (by omega) (by omega) ?_
          refine z_aload rfl rfl ?_
          refine z_dup rfl rfl ?_
          refine z_getI (v := J 29 5) rfl rfl ((zU_n (by decide)).trans (c1.symm)) ?_
          refine z_pushI (z := 1) rfl rfl ?_
          refine z_isub (e := (J 29 5) - 1) rfl rfl ?_
          refine z_putI (y := 8) rfl rfl rfl ?_
          refine z_aload rfl rfl ?_
          refine z_dup rfl rfl ?_
          refine z_getI (v := J 50 9) rfl rfl ((zU_x (by decide)).trans ((zU_n (by decide)).trans (rfl))) ?_
          refine z_pushI (z := 1) rfl rfl ?_
          refine z_iadd (e := (J 50 9) + 1) rfl rfl ?_
          refine z_putI (y := 9) rfl rfl rfl ?_
          refine z_aload rfl rfl ?_
          refine z_aload rfl rfl ?_
          refine z_getR (r := 57) rfl rfl (hRr _ rm_50_10 (by decide)) ?_
          refine z_aload rfl rfl ?_
          refine z_getI (v := (J 29 5) - 1) rfl rfl ((zU_x (by decide)).trans (zU_e)) ?_
          refine z_iald (v := J 57 ((J 29 5) - 1)) rfl rfl (by decide) (by omega) ((zU_n (by decide)).trans ((zU_n (by decide)).trans ((zU_n (by decide)).trans (rfl)))) ?_
          refine z_aload rfl rfl ?_
          refine z_getR (r := 58) rfl rfl (hRr _ rm_50_11 (by decide)) ?_
          refine z_aload rfl rfl ?_
          refine z_getI (v := (J 29 5) - 1) rfl rfl ((zU_x (by decide)).trans (zU_e)) ?_
          refine z_iald (v := J 58 ((J 29 5) - 1)) rfl rfl (by decide) (by omega) ((zU_n (by decide)).trans ((zU_n (by decide)).trans ((zU_n (by decide)).trans (rfl)))) ?_
          refine z_aload rfl rfl ?_
          refine z_getR (r := 59) rfl rfl (hRr _ rm_50_12 (by decide)) ?_
          refine z_aload rfl rfl ?_
          refine z_getI (v := (J 29 5) - 1) rfl rfl ((zU_x (by decide)).trans (zU_e)) ?_
          refine z_iald (v := J 59 ((J 29 5) - 1)) rfl rfl (by decide) (by omega) ((zU_n (by decide)).trans ((zU_n (by decide)).trans ((zU_n (by decide)).trans (rfl)))) ?_
          refine z_callVi (As := [_, _, _]) (le := [some _, some _, some _, some _]) rfl rfl rfl (Nat.le_of_ble_eq_true rfl) (Nat.le_of_ble_eq_true rfl) rfl ?_
          refine z_iload rfl rfl ?_
          refine z_sw (T := [((0 : Int), 36), ((1 : Int), 46), ((2 : Int), 56), ((3 : Int), 66), ((4 : Int), 76)]) rfl (by omega) rfl (fun q hq7 hxhq7 => ?_) (fun hq7 => ?_)
          · simp only [List.mem_cons, List.not_mem_nil, or_false] at hq7
            rcases hq7 with rfl | rfl | rfl | rfl | rfl
            · have hxhq7 : J 57 ((J 29 5) - 1) = 0 := hxhq7
              refine z_aload rfl rfl ?_
              refine z_getR (r := 51) rfl rfl (hRr _ rm_50_2 (by decide)) ?_
              refine z_iload rfl rfl ?_
              refine z_iload rfl rfl ?_
              refine z_iast (e := J 59 ((J 29 5) - 1)) rfl rfl (by decide) (by omega) rfl ?_
              refine z_goto rfl ?_
              refine z_vret rfl rfl ?_
              show zW _ _ _ _ _ _ _ _ _ _
              refine z_aload rfl rfl ?_
              refine z_getI (v := (J 29 5) - 1) rfl rfl ((zU_n (by decide)).trans ((zU_x (by decide)).trans (zU_e))) ?_
              refine z_iret rfl rfl ?_
              refine ⟨?_, ?_⟩
              · first | rfl | exact congrArg (fun v => some (zi v)) (by omega) | (exfalso; omega)
              · exfalso
                omega
            · have hxhq7 : J 57 ((J 29 5) - 1) = 1 := hxhq7
              refine z_aload rfl rfl ?_
              refine z_getR (r := 52) rfl rfl (hRr _ rm_50_3 (by decide)) ?_
              refine z_iload rfl rfl ?_
              refine z_iload rfl rfl ?_
              refine z_iast (e := J 59 ((J 29 5) - 1)) rfl rfl (by decide) (by omega) rfl ?_
              refine z_goto rfl ?_
              refine z_vret rfl rfl ?_
              show zW _ _ _ _ _ _ _ _ _ _
              refine z_aload rfl rfl ?_
              refine z_getI (v := (J 29 5) - 1) rfl rfl ((zU_n (by decide)).trans ((zU_x (by decide)).trans (zU_e))) ?_
              refine z_iret rfl rfl ?_
              refine ⟨?_, ?_⟩
              · first | rfl | exact congrArg (fun v => some (zi v)) (by omega) | (exfalso; omega)
              · exfalso
                omega
            · have hxhq7 : J 57 ((J 29 5) - 1) = 2 := hxhq7
              refine z_aload rfl rfl ?_
              refine z_getR (r := 53) rfl rfl (hRr _ rm_50_4 (by decide)) ?_
              refine z_iload rfl rfl ?_
              refine z_iload rfl rfl ?_
              refine z_iast (e := J 59 ((J 29 5) - 1)) rfl rfl (by decide) (by omega) rfl ?_
              refine z_goto rfl ?_
              refine z_vret rfl rfl ?_
              show zW _ _ _ _ _ _ _ _ _ _
              refine z_aload rfl rfl ?_
              refine z_getI (v := (J 29 5) - 1) rfl rfl ((zU_n (by decide)).trans ((zU_x (by decide)).trans (zU_e))) ?_
              refine z_iret rfl rfl ?_
              refine ⟨?_, ?_⟩
              · first | rfl | exact congrArg (fun v => some (zi v)) (by omega) | (exfalso; omega)
              · exfalso
                omega
            · have hxhq7 : J 57 ((J 29 5) - 1) = 3 := hxhq7
              refine z_aload rfl rfl ?_
              refine z_getR (r := 54) rfl rfl (hRr _ rm_50_5 (by decide)) ?_
              refine z_iload rfl rfl ?_
              refine z_iload rfl rfl ?_
              refine z_iast (e := J 59 ((J 29 5) - 1)) rfl rfl (by decide) (by omega) rfl ?_
              refine z_goto rfl ?_
              refine z_vret rfl rfl ?_
              show zW _ _ _ _ _ _ _ _ _ _
              refine z_aload rfl rfl ?_
              refine z_getI (v := (J 29 5) - 1) rfl rfl ((zU_n (by decide)).trans ((zU_x (by decide)).trans (zU_e))) ?_
              refine z_iret rfl rfl ?_
              refine ⟨?_, ?_⟩
              · first | rfl | exact congrArg (fun v => some (zi v)) (by omega) | (exfalso; omega)
              · exfalso
                omega
            · have hxhq7 : J 57 ((J 29 5) - 1) = 4 := hxhq7
              refine z_aload rfl rfl ?_
              refine z_getR (r := 55) rfl rfl (hRr _ rm_50_6 (by decide)) ?_
              refine z_iload rfl rfl ?_
              refine z_iload rfl rfl ?_
              refine z_iast (e := J 59 ((J 29 5) - 1)) rfl rfl (by decide) (by omega) rfl ?_
              refine z_goto rfl ?_
              refine z_vret rfl rfl ?_
              show zW _ _ _ _ _ _ _ _ _ _
              refine z_aload rfl rfl ?_
              refine z_getI (v := (J 29 5) - 1) rfl rfl ((zU_n (by decide)).trans ((zU_x (by decide)).trans (zU_e))) ?_
              refine z_iret rfl rfl ?_
              refine ⟨?_, ?_⟩
              · first | rfl | exact congrArg (fun v => some (zi v)) (by omega) | (exfalso; omega)
              · exfalso
                omega
          · have hq7 : ∀ q ∈ [((0 : Int), 36), ((1 : Int), 46), ((2 : Int), 56), ((3 : Int), 66), ((4 : Int), 76)], ¬ J 57 ((J 29 5) - 1) = q.1 := hq7
            have hq7_0 : ¬ J 57 ((J 29 5) - 1) = 0 := hq7 (0, 36) (by simp)
            have hq7_1 : ¬ J 57 ((J 29 5) - 1) = 1 := hq7 (1, 46) (by simp)
            have hq7_2 : ¬ J 57 ((J 29 5) - 1) = 2 := hq7 (2, 56) (by simp)
            have hq7_3 : ¬ J 57 ((J 29 5) - 1) = 3 := hq7 (3, 66) (by simp)
            have hq7_4 : ¬ J 57 ((J 29 5) - 1) = 4 := hq7 (4, 76) (by simp)
            refine z_aload rfl rfl ?_
            refine z_getR (r := 56) rfl rfl (hRr _ rm_50_7 (by decide)) ?_
            refine z_iload rfl rfl ?_
            refine z_pushI (z := 5) rfl rfl ?_
            refine z_isub (e := (J 57 ((J 29 5) - 1)) - 5) rfl rfl ?_
            refine z_iload rfl rfl ?_
            refine z_iast (e := J 59 ((J 29 5) - 1)) rfl rfl (by decide) (by omega) rfl ?_
            refine z_vret rfl rfl ?_
            show zW _ _ _ _ _ _ _ _ _ _
            refine z_aload rfl rfl ?_
            refine z_getI (v := (J 29 5) - 1) rfl rfl ((zU_n (by decide)).trans ((zU_x (by decide)).trans (zU_e))) ?_
            refine z_iret rfl rfl ?_
            refine ⟨?_, ?_⟩
            · first | rfl | exact congrArg (fun v => some (zi v)) (by omega) | (exfalso; omega)
            · exfalso
              omega
        · refine z_iload rfl rfl ?_
          refine z_aload rfl rfl ?_
          refine z_getI (v := J 8 2) rfl rfl ((zU_n (by decide)).trans (rfl)) ?_
          refine z_icmp_ge rfl (by omega) (by omega) (fun h7 => ?_) (fun h7 => ?_)
          · refine z_pushI (z := 0) rfl rfl ?_
            refine z_bret rfl rfl (by decide) ?_
            show zW _ _ _ _ _ _ _ _ _ _
            refine z_if_eqT rfl (by decide) (by decide) ?_
            refine z_pushI (z := (-1)) rfl rfl ?_
            refine z_iret rfl rfl ?_
            show zW _ _ _ _ _ _ _ _ _ _
            refine z_istore rfl rfl ?_
            refine z_iload rfl rfl ?_
            refine z_if_ltT rfl (by decide) (by decide) ?_
            refine z_vret rfl rfl ?_
            show zW _ _ _ _ _ _ _ _ _ _
            refine z_pushI (z := 1) rfl rfl ?_
            refine z_bret rfl rfl (by decide) ?_
            show zW _ _ _ _ _ _ _ _ _ _
            refine z_if_eqF rfl (by decide) (by decide) ?_
            refine z_aload rfl rfl ?_
            refine z_getR (r := 29) rfl rfl (hR _ rm_0_9) ?_
            refine z_getI (v := (J 29 5) - 1) rfl rfl (zU_e) ?_
            refine z_goto rfl ?_
            refine z_iret rfl rfl ?_
            refine ⟨_, rfl, ?_⟩
            show zW _ _ _ _ [some (.ref 50)] _ _ _ _ _
            refine z_aload rfl rfl ?_
            refine z_getI (v := J 29 5) rfl rfl ((zU_n (by decide)).trans (c1.symm)) ?_
            refine z_if_neT rfl (by omega) (by omega) ?_
            refine z_aload rfl rfl ?_
            refine z_dup rfl rfl ?_
            refine z_getI (v := J 29 5) rfl rfl ((zU_n (by decide)).trans (c1.symm)) ?_
            refine z_pushI (z := 1) rfl rfl ?_
            refine z_isub (e := (J 29 5) - 1) rfl rfl ?_
            refine z_putI (y := 8) rfl rfl rfl ?_
            refine z_aload rfl rfl ?_
            refine z_dup rfl rfl ?_
            refine z_getI (v := J 50 9) rfl rfl ((zU_x (by decide)).trans ((zU_n (by decide)).trans (rfl))) ?_
            refine z_pushI (z := 1) rfl rfl ?_
            refine z_iadd (e := (J 50 9) + 1) rfl rfl ?_
            refine z_putI (y := 9) rfl rfl rfl ?_
            refine z_aload rfl rfl ?_
            refine z_aload rfl rfl ?_
            refine z_getR (r := 57) rfl rfl (hRr _ rm_50_10 (by decide)) ?_
            refine z_aload rfl rfl ?_
            refine z_getI (v := (J 29 5) - 1) rfl rfl ((zU_x (by decide)).trans (zU_e)) ?_
            refine z_iald (v := J 57 ((J 29 5) - 1)) rfl rfl (by decide) (by omega) ((zU_n (by decide)).trans ((zU_n (by decide)).trans ((zU_n (by decide)).trans (rfl)))) ?_
            refine z_aload rfl rfl ?_
            refine z_getR (r := 58) rfl rfl (hRr _ rm_50_11 (by decide)) ?_
            refine z_aload rfl rfl ?_
            refine z_getI (v := (J 29 5) - 1) rfl rfl ((zU_x (by decide)).trans (zU_e)) ?_
            refine z_iald (v := J 58 ((J 29 5) - 1)) rfl rfl (by decide) (by omega) ((zU_n (by decide)).trans ((zU_n (by decide)).trans ((zU_n (by decide)).trans (rfl)))) ?_
            refine z_aload rfl rfl ?_
            refine z_getR (r := 59) rfl rfl (hRr _ rm_50_12 (by decide)) ?_
            refine z_aload rfl rfl ?_
            refine z_getI (v := (J 29 5) - 1) rfl rfl ((zU_x (by decide)).trans (zU_e)) ?_
            refine z_iald (v := J 59 ((J 29 5) - 1)) rfl rfl (by decide) (by omega) ((zU_n (by decide)).trans ((zU_n (by decide)).trans ((zU_n (by decide)).trans (rfl)))) ?_
            refine z_callVi (As := [_, _, _]) (le := [some _, some _, some _, some _]) rfl rfl rfl (Nat.le_of_ble_eq_true rfl) (Nat.le_of_ble_eq_true rfl) rfl ?_
            refine z_iload rfl rfl ?_
            refine z_sw (T := [((0 : Int), 36), ((1 : Int), 46), ((2 : Int), 56), ((3 : Int), 66), ((4 : Int), 76)]) rfl (by omega) rfl (fun q hq8 hxhq8 => ?_) (fun hq8 => ?_)
            · simp only [List.mem_cons, List.not_mem_nil, or_false] at hq8
              rcases hq8 with rfl | rfl | rfl | rfl | rfl
              · have hxhq8 : J 57 ((J 29 5) - 1) = 0 := hxhq8
                refine z_aload rfl rfl ?_
                refine z_getR (r := 51) rfl rfl (hRr _ rm_50_2 (by decide)) ?_
                refine z_iload rfl rfl ?_
                refine z_iload rfl rfl ?_
                refine z_iast (e := J 59 ((J 29 5) - 1)) rfl rfl (by decide) (by omega) rfl ?_
                refine z_goto rfl ?_
                refine z_vret rfl rfl ?_
                show zW _ _ _ _ _ _ _ _ _ _
                refine z_aload rfl rfl ?_
                refine z_getI (v := (J 29 5) - 1) rfl rfl ((zU_n (by decide)).trans ((zU_x (by decide)).trans (zU_e))) ?_
                refine z_iret rfl rfl ?_
                refine ⟨?_, ?_⟩
                · first | rfl | exact congrArg (fun v => some (zi v)) (by omega) | (exfalso; omega)
                · exfalso
                  omega
              · have hxhq8 : J 57 ((J 29 5) - 1) = 1 := hxhq8
                refine z_aload rfl rfl ?_
                refine z_getR (r := 52) rfl rfl (hRr _ rm_50_3 (by decide)) ?_
                refine z_iload rfl rfl ?_
                refine z_iload rfl rfl ?_
                refine z_iast (e := J 59 ((J 29 5) - 1)) rfl rfl (by decide) (by omega) rfl ?_
                refine z_goto rfl ?_
                refine z_vret rfl rfl ?_
                show zW _ _ _ _ _ _ _ _ _ _
                refine z_aload rfl rfl ?_
                refine z_getI (v := (J 29 5) - 1) rfl rfl ((zU_n (by decide)).trans ((zU_x (by decide)).trans (zU_e))) ?_
                refine z_iret rfl rfl ?_
                refine ⟨?_, ?_⟩
                · first | rfl | exact congrArg (fun v => some (zi v)) (by omega) | (exfalso; omega)
                · exfalso
                  omega
              · have hxhq8 : J 57 ((J 29 5) - 1) = 2 := hxhq8
                refine z_aload rfl rfl ?_
                refine z_getR (r := 53) rfl rfl (hRr _ rm_50_4 (by decide)) ?_
                refine z_iload rfl rfl ?_
                refine z_iload rfl rfl ?_
                refine z_iast (e := J 59 ((J 29 5) - 1)) rfl rfl (by decide) (by omega) rfl ?_
                refine z_goto rfl ?_
                refine z_vret rfl rfl ?_
                show zW _ _ _ _ _ _ _ _ _ _
                refine z_aload rfl rfl ?_
                refine z_getI (v := (J 29 5) - 1) rfl rfl ((zU_n (by decide)).trans ((zU_x (by decide)).trans (zU_e))) ?_
                refine z_iret rfl rfl ?_
                refine ⟨?_, ?_⟩
                · first | rfl | exact congrArg (fun v => some (zi v)) (by omega) | (exfalso; omega)
                · exfalso
                  omega
              · have hxhq8 : J 57 ((J 29 5) - 1) = 3 := hxhq8
                refine z_aload rfl rfl ?_
                refine z_getR (r := 54) rfl rfl (hRr _ rm_50_5 (by decide)) ?_
                refine z_iload rfl rfl ?_
                refine z_iload rfl rfl ?_
                refine z_iast (e := J 59 ((J 29 5) - 1)) rfl rfl (by decide) (by omega) rfl ?_
                refine z_goto rfl ?_
                refine z_vret rfl rfl ?_
                show zW _ _ _ _ _ _ _ _ _ _
                refine z_aload rfl rfl ?_
                refine z_getI (v := (J 29 5) - 1) rfl rfl ((zU_n (by decide)).trans ((zU_x (by decide)).trans (zU_e))) ?_
                refine z_iret rfl rfl ?_
                refine ⟨?_, ?_⟩
                · first | rfl | exact congrArg (fun v => some (zi v)) (by omega) | (exfalso; omega)
                · exfalso
                  omega
              · have hxhq8 : J 57 ((J 29 5) - 1) = 4 := hxhq8
                refine z_aload rfl rfl ?_
                refine z_getR (r := 55) rfl rfl (hRr _ rm_50_6 (by decide)) ?_
                refine z_iload rfl rfl ?_
                refine z_iload rfl rfl ?_
                refine z_iast (e := J 59 ((J 29 5) - 1)) rfl rfl (by decide) (by omega) rfl ?_
                refine z_goto rfl ?_
                refine z_vret rfl rfl ?_
                show zW _ _ _ _ _ _ _ _ _ _
                refine z_aload rfl rfl ?_
                refine z_getI (v := (J 29 5) - 1) rfl rfl ((zU_n (by decide)).trans ((zU_x (by decide)).trans (zU_e))) ?_
                refine z_iret rfl rfl ?_
                refine ⟨?_, ?_⟩
                · first | rfl | exact congrArg (fun v => some (zi v)) (by omega) | (exfalso; omega)
                · exfalso
                  omega
            · have hq8 : ∀ q ∈ [((0 : Int), 36), ((1 : Int), 46), ((2 : Int), 56), ((3 : Int), 66), ((4 : Int), 76)], ¬ J 57 ((J 29 5) - 1) = q.1 := hq8
              have hq8_0 : ¬ J 57 ((J 29 5) - 1) = 0 := hq8 (0, 36) (by simp)
              have hq8_1 : ¬ J 57 ((J 29 5) - 1) = 1 := hq8 (1, 46) (by simp)
              have hq8_2 : ¬ J 57 ((J 29 5) - 1) = 2 := hq8 (2, 56) (by simp)
              have hq8_3 : ¬ J 57 ((J 29 5) - 1) = 3 := hq8 (3, 66) (by simp)
              have hq8_4 : ¬ J 57 ((J 29 5) - 1) = 4 := hq8 (4, 76) (by simp)
              refine z_aload rfl rfl ?_
              refine z_getR (r := 56) rfl rfl (hRr _ rm_50_7 (by decide)) ?_
              refine z_iload rfl rfl ?_
              refine z_pushI (z := 5) rfl rfl ?_
              refine z_isub (e := (J 57 ((J 29 5) - 1)) - 5) rfl rfl ?_
              refine z_iload rfl rfl ?_
              refine z_iast (e := J 59 ((J 29 5) - 1)) rfl rfl (by decide) (by omega) rfl ?_
              refine z_vret rfl rfl ?_
              show zW _ _ _ _ _ _ _ _ _ _
              refine z_aload rfl rfl ?_
              refine z_getI (v := (J 29 5) - 1) rfl rfl ((zU_n (by decide)).trans ((zU_x (by decide)).trans (zU_e))) ?_
              refine z_iret rfl rfl ?_
              refine ⟨?_, ?_⟩
              · first | rfl | exact congrArg (fun v => some (zi v)) (by omega) | (exfalso; omega)
              · exfalso
                omega
          · refine z_pushI (z := 1) rfl rfl ?_
            refine z_goto rfl ?_
            refine z_bret rfl rfl (by decide) ?_
            show zW _ _ _ _ _ _ _ _ _ _
            refine z_if_eqF rfl (by decide) (by decide) ?_
            refine z_iload rfl rfl ?_
            refine z_pushI (z := 5) rfl rfl ?_
            refine z_imul (e := (J 30 ((J 29 5) - 1)) * 5) rfl rfl ?_
            refine z_iload rfl rfl ?_
            refine z_iadd (e := (J 30 ((J 29 5) - 1)) * 5 + (J 31 ((J 29 5) - 1))) rfl rfl ?_
            refine z_goto rfl ?_
            refine z_iret rfl rfl ?_
            show zW _ _ _ _ _ _ _ _ _ _
            refine z_istore rfl rfl ?_
            refine z_iload rfl rfl ?_
            refine z_if_lt rfl (by omega) (fun h8 => ?_) (fun h8 => ?_)
            · refine z_vret rfl rfl ?_
              show zW _ _ _ _ _ _ _ _ _ _
              refine z_pushI (z := 1) rfl rfl ?_
              refine z_bret rfl rfl (by decide) ?_
              show zW _ _ _ _ _ _ _ _ _ _
              refine z_if_eqF rfl (by decide) (by decide) ?_
              refine z_aload rfl rfl ?_
              refine z_getR (r := 29) rfl rfl (hR _ rm_0_9) ?_
              refine z_getI (v := (J 29 5) - 1) rfl rfl (zU_e) ?_
              refine z_goto rfl ?_
              refine z_iret rfl rfl ?_
              refine ⟨_, rfl, ?_⟩
              show zW _ _ _ _ [some (.ref 50)] _ _ _ _ _
              refine z_aload rfl rfl ?_
              refine z_getI (v := J 29 5) rfl rfl ((zU_n (by decide)).trans (c1.symm)) ?_
              refine z_if_neT rfl (by omega) (by omega) ?_
              refine z_aload rfl rfl ?_
              refine z_dup rfl rfl ?_
              refine z_getI (v := J 29 5) rfl rfl ((zU_n (by decide)).trans (c1.symm)) ?_
              refine z_pushI (z := 1) rfl rfl ?_
              refine z_isub (e := (J 29 5) - 1) rfl rfl ?_
              refine z_putI (y := 8) rfl rfl rfl ?_
              refine z_aload rfl rfl ?_
              refine z_dup rfl rfl ?_
              refine z_getI (v := J 50 9) rfl rfl ((zU_x (by decide)).trans ((zU_n (by decide)).trans (rfl))) ?_
              refine z_pushI (z := 1) rfl rfl ?_
              refine z_iadd (e := (J 50 9) + 1) rfl rfl ?_
              refine z_putI (y := 9) rfl rfl rfl ?_
              refine z_aload rfl rfl ?_
              refine z_aload rfl rfl ?_
              refine z_getR (r := 57) rfl rfl (hRr _ rm_50_10 (by decide)) ?_
              refine z_aload rfl rfl ?_
              refine z_getI (v := (J 29 5) - 1) rfl rfl ((zU_x (by decide)).trans (zU_e)) ?_
              refine z_iald (v := J 57 ((J 29 5) - 1)) rfl rfl (by decide) (by omega) ((zU_n (by decide)).trans ((zU_n (by decide)).trans ((zU_n (by decide)).trans (rfl)))) ?_
              refine z_aload rfl rfl ?_
              refine z_getR (r := 58) rfl rfl (hRr _ rm_50_11 (by decide)) ?_
              refine z_aload rfl rfl ?_
              refine z_getI (v := (J 29 5) - 1) rfl rfl ((zU_x (by decide)).trans (zU_e)) ?_
              refine z_iald (v := J 58 ((J 29 5) - 1)) rfl rfl (by decide) (by omega) ((zU_n (by decide)).trans ((zU_n (by decide)).trans ((zU_n (by decide)).trans (rfl)))) ?_
              refine z_aload rfl rfl ?_
              refine z_getR (r := 59) rfl rfl (hRr _ rm_50_12 (by decide)) ?_
              refine z_aload rfl rfl ?_
              refine z_getI (v := (J 29 5) - 1) rfl rfl ((zU_x (by decide)).trans (zU_e)) ?_
              refine z_iald (v := J 59 ((J 29 5) - 1)) rfl rfl (by decide) (by omega) ((zU_n (by decide)).trans ((zU_n (by decide)).trans ((zU_n (by decide)).trans (rfl)))) ?_
              refine z_callVi (As := [_, _, _]) (le := [some _, some _, some _, some _]) rfl rfl rfl (Nat.le_of_ble_eq_true rfl) (Nat.le_of_ble_eq_true rfl) rfl ?_
              refine z_iload rfl rfl ?_
              refine z_sw (T := [((0 : Int), 36), ((1 : Int), 46), ((2 : Int), 56), ((3 : Int), 66), ((4 : Int), 76)]) rfl (by omega) rfl (fun q hq9 hxhq9 => ?_) (fun hq9 => ?_)
              · simp only [List.mem_cons, List.not_mem_nil, or_false] at hq9
                rcases hq9 with rfl | rfl | rfl | rfl | rfl
                · have hxhq9 : J 57 ((J 29 5) - 1) = 0 := hxhq9
                  refine z_aload rfl rfl ?_
                  refine z_getR (r := 51) rfl rfl (hRr _ rm_50_2 (by decide)) ?_
                  refine z_iload rfl rfl ?_
                  refine z_iload rfl rfl ?_
                  refine z_iast (e := J 59 ((J 29 5) - 1)) rfl rfl (by decide) (by omega) rfl ?_
                  refine z_goto rfl ?_
                  refine z_vret rfl rfl ?_
                  show zW _ _ _ _ _ _ _ _ _ _
                  refine z_aload rfl rfl ?_
                  refine z_getI (v := (J 29 5) - 1) rfl rfl ((zU_n (by decide)).trans ((zU_x (by decide)).trans (zU_e))) ?_
                  refine z_iret rfl rfl ?_
                  refine ⟨?_, ?_⟩
                  · first | rfl | exact congrArg (fun v => some (zi v)) (by omega) | (exfalso; omega)
                  · exfalso
                    omega
                · have hxhq9 : J 57 ((J 29 5) - 1) = 1 := hxhq9
                  refine z_aload rfl rfl ?_
                  refine z_getR (r := 52) rfl rfl (hRr _ rm_50_3 (by decide)) ?_
                  refine z_iload rfl rfl ?_
                  refine z_iload rfl rfl ?_
                  refine z_iast (e := J 59 ((J 29 5) - 1)) rfl rfl (by decide) (by omega) rfl ?_
                  refine z_goto rfl ?_
                  refine z_vret rfl rfl ?_
                  show zW _ _ _ _ _ _ _ _ _ _
                  refine z_aload rfl rfl ?_
                  refine z_getI (v := (J 29 5) - 1) rfl rfl ((zU_n (by decide)).trans ((zU_x (by decide)).trans (zU_e))) ?_
                  refine z_iret rfl rfl ?_
                  refine ⟨?_, ?_⟩
                  · first | rfl | exact congrArg (fun v => some (zi v)) (by omega) | (exfalso; omega)
                  · exfalso
                    omega
                · have hxhq9 : J 57 ((J 29 5) - 1) = 2 := hxhq9
                  refine z_aload rfl rfl ?_
                  refine z_getR (r := 53) rfl rfl (hRr _ rm_50_4 (by decide)) ?_
                  refine z_iload rfl rfl ?_
                  refine z_iload rfl rfl ?_
                  refine z_iast (e := J 59 ((J 29 5) - 1)) rfl rfl (by decide) (by omega) rfl ?_
                  refine z_goto rfl ?_
                  refine z_vret rfl rfl ?_
                  show zW _ _ _ _ _ _ _ _ _ _
                  refine z_aload rfl rfl ?_
                  refine z_getI (v := (J 29 5) - 1) rfl rfl ((zU_n (by decide)).trans ((zU_x (by decide)).trans (zU_e))) ?_
                  refine z_iret rfl rfl ?_
                  refine ⟨?_, ?_⟩
                  · first | rfl | exact congrArg (fun v => some (zi v)) (by omega) | (exfalso; omega)
                  · exfalso
                    omega
                · have hxhq9 : J 57 ((J 29 5) - 1) = 3 := hxhq9
                  refine z_aload rfl rfl ?_
                  refine z_getR (r := 54) rfl rfl (hRr _ rm_50_5 (by decide)) ?_
                  refine z_iload rfl rfl ?_
                  refine z_iload rfl rfl ?_
                  refine z_iast (e := J 59 ((J 29 5) - 1)) rfl rfl (by decide) (by omega) rfl ?_
                  refine z_goto rfl ?_
                  refine z_vret rfl rfl ?_
                  show zW _ _ _ _ _ _ _ _ _ _
                  refine z_aload rfl rfl ?_
                  refine z_getI (v := (J 29 5) - 1) rfl rfl ((zU_n (by decide)).trans ((zU_x (by decide)).trans (zU_e))) ?_
                  refine z_iret rfl rfl ?_
                  refine ⟨?_, ?_⟩
                  · first | rfl | exact congrArg (fun v => some (zi v)) (by omega) | (exfalso; omega)
                  · exfalso
                    omega
                · have hxhq9 : J 57 ((J 29 5) - 1) = 4 := hxhq9
                  refine z_aload rfl rfl ?_
                  refine z_getR (r := 55) rfl rfl (hRr _ rm_50_6 (by decide)) ?_
                  refine z_iload rfl rfl ?_
                  refine z_iload rfl rfl ?_
                  refine z_iast (e := J 59 ((J 29 5) - 1)) rfl rfl (by decide) (by omega) rfl ?_
                  refine z_goto rfl ?_
                  refine z_vret rfl rfl ?_
                  show zW _ _ _ _ _ _ _ _ _ _
                  refine z_aload rfl rfl ?_
                  refine z_getI (v := (J 29 5) - 1) rfl rfl ((zU_n (by decide)).trans ((zU_x (by decide)).trans (zU_e))) ?_
                  refine z_iret rfl rfl ?_
                  refine ⟨?_, ?_⟩
                  · first | rfl | exact congrArg (fun v => some (zi v)) (by omega) | (exfalso; omega)
                  · exfalso
                    omega
              · have hq9 : ∀ q ∈ [((0 : Int), 36), ((1 : Int), 46), ((2 : Int), 56), ((3 : Int), 66), ((4 : Int), 76)], ¬ J 57 ((J 29 5) - 1) = q.1 := hq9
                have hq9_0 : ¬ J 57 ((J 29 5) - 1) = 0 := hq9 (0, 36) (by simp)
                have hq9_1 : ¬ J 57 ((J 29 5) - 1) = 1 := hq9 (1, 46) (by simp)
                have hq9_2 : ¬ J 57 ((J 29 5) - 1) = 2 := hq9 (2, 56) (by simp)
                have hq9_3 : ¬ J 57 ((J 29 5) - 1) = 3 := hq9 (3, 66) (by simp)
                have hq9_4 : ¬ J 57 ((J 29 5) - 1) = 4 := hq9 (4, 76) (by simp)
                refine z_aload rfl rfl ?_
                refine z_getR (r := 56) rfl rfl (hRr _ rm_50_7 (by decide)) ?_
                refine z_iload rfl rfl ?_
                refine z_pushI (z := 5) rfl rfl ?_
                refine z_isub (e := (J 57 ((J 29 5) - 1)) - 5) rfl rfl ?_
                refine z_iload rfl rfl ?_
                refine z_iast (e := J 59 ((J 29 5) - 1)) rfl rfl (by decide) (by omega) rfl ?_
                refine z_vret rfl rfl ?_
                show zW _ _ _ _ _ _ _ _ _ _
                refine z_aload rfl rfl ?_
                refine z_getI (v := (J 29 5) - 1) rfl rfl ((zU_n (by decide)).trans ((zU_x (by decide)).trans (zU_e))) ?_
                refine z_iret rfl rfl ?_
                refine ⟨?_, ?_⟩
                · first | rfl | exact congrArg (fun v => some (zi v)) (by omega) | (exfalso; omega)
                · exfalso
                  omega
            · refine z_aload rfl rfl ?_
              refine z_getR (r := 9) rfl rfl (hR _ rm_8_1) ?_
              refine z_iload rfl rfl ?_
              refine z_iload rfl rfl ?_
              refine z_iast (e := J 32 ((J 29 5) - 1)) rfl rfl (by decide) (by omega) rfl ?_
              refine z_vret rfl rfl ?_
              show zW _ _ _ _ _ _ _ _ _ _
              refine z_pushI (z := 1) rfl rfl ?_
              refine z_bret rfl rfl (by decide) ?_
              show zW _ _ _ _ _ _ _ _ _ _
              refine z_if_eqF rfl (by decide) (by decide) ?_
              refine z_aload rfl rfl ?_
              refine z_getR (r := 29) rfl rfl (hR _ rm_0_9) ?_
              refine z_getI (v := (J 29 5) - 1) rfl rfl ((zU_n (by decide)).trans (zU_e)) ?_
              refine z_goto rfl ?_
              refine z_iret rfl rfl ?_
              refine ⟨_, rfl, ?_⟩
              show zW _ _ _ _ [some (.ref 50)] _ _ _ _ _
              refine z_aload rfl rfl ?_
              refine z_getI (v := J 29 5) rfl rfl ((zU_n (by decide)).trans ((zU_n (by decide)).trans (c1.symm))) ?_
              refine z_if_neT rfl (by omega) (by omega) ?_
              refine z_aload rfl rfl ?_
              refine z_dup rfl rfl ?_
              refine z_getI (v := J 29 5) rfl rfl ((zU_n (by decide)).trans ((zU_n (by decide)).trans (c1.symm))) ?_
              refine z_pushI (z := 1) rfl rfl ?_
              refine z_isub (e := (J 29 5) - 1) rfl rfl ?_
              refine z_putI (y := 8) rfl rfl rfl ?_
              refine z_aload rfl rfl ?_
              refine z_dup rfl rfl ?_
              refine z_getI (v := J 50 9) rfl rfl ((zU_x (by decide)).trans ((zU_n (by decide)).trans ((zU_n (by decide)).trans (rfl)))) ?_
              refine z_pushI (z := 1) rfl rfl ?_
              refine z_iadd (e := (J 50 9) + 1) rfl rfl ?_
              refine z_putI (y := 9) rfl rfl rfl ?_
              refine z_aload rfl rfl ?_
              refine z_aload rfl rfl ?_
              refine z_getR (r := 57) rfl rfl (hRr _ rm_50_10 (by decide)) ?_
              refine z_aload rfl rfl ?_
              refine z_getI (v := (J 29 5) - 1) rfl rfl ((zU_x (by decide)).trans (zU_e)) ?_
              refine z_iald (v := J 57 ((J 29 5) - 1)) rfl rfl (by decide) (by omega) ((zU_n (by decide)).trans ((zU_n (by decide)).trans ((zU_n (by decide)).trans ((zU_n (by decide)).trans (rfl))))) ?_
              refine z_aload rfl rfl ?_
              refine z_getR (r := 58) rfl rfl (hRr _ rm_50_11 (by decide)) ?_
              refine z_aload rfl rfl ?_
              refine z_getI (v := (J 29 5) - 1) rfl rfl ((zU_x (by decide)).trans (zU_e)) ?_
              refine z_iald (v := J 58 ((J 29 5) - 1)) rfl rfl (by decide) (by omega) ((zU_n (by decide)).trans ((zU_n (by decide)).trans ((zU_n (by decide)).trans ((zU_n (by decide)).trans (rfl))))) ?_
              refine z_aload rfl rfl ?_
              refine z_getR (r := 59) rfl rfl (hRr _ rm_50_12 (by decide)) ?_
              refine z_aload rfl rfl ?_
              refine z_getI (v := (J 29 5) - 1) rfl rfl ((zU_x (by decide)).trans (zU_e)) ?_
              refine z_iald (v := J 59 ((J 29 5) - 1)) rfl rfl (by decide) (by omega) ((zU_n (by decide)).trans ((zU_n (by decide)).trans ((zU_n (by decide)).trans ((zU_n (by decide)).trans (rfl))))) ?_
              refine z_callVi (As := [_, _, _]) (le := [some _, some _, some _, some _]) rfl rfl rfl (Nat.le_of_ble_eq_true rfl) (Nat.le_of_ble_eq_true rfl) rfl ?_
              refine z_iload rfl rfl ?_
              refine z_sw (T := [((0 : Int), 36), ((1 : Int), 46), ((2 : Int), 56), ((3 : Int), 66), ((4 : Int), 76)]) rfl (by omega) rfl (fun q hq9 hxhq9 => ?_) (fun hq9 => ?_)
              · simp only [List.mem_cons, List.not_mem_nil, or_false] at hq9
                rcases hq9 with rfl | rfl | rfl | rfl | rfl
                · have hxhq9 : J 57 ((J 29 5) - 1) = 0 := hxhq9
                  refine z_aload rfl rfl ?_
                  refine z_getR (r := 51) rfl rfl (hRr _ rm_50_2 (by decide)) ?_
                  refine z_iload rfl rfl ?_
                  refine z_iload rfl rfl ?_
                  refine z_iast (e := J 59 ((J 29 5) - 1)) rfl rfl (by decide) (by omega) rfl ?_
                  refine z_goto rfl ?_
                  refine z_vret rfl rfl ?_
                  show zW _ _ _ _ _ _ _ _ _ _
                  refine z_aload rfl rfl ?_
                  refine z_getI (v := (J 29 5) - 1) rfl rfl ((zU_n (by decide)).trans ((zU_x (by decide)).trans (zU_e))) ?_
                  refine z_iret rfl rfl ?_
                  refine ⟨?_, ?_⟩
                  · first | rfl | exact congrArg (fun v => some (zi v)) (by omega) | (exfalso; omega)
                  · have hs := (zK_u (a := 51) (x := J 58 ((J 29 5) - 1)) (v := J 59 ((J 29 5) - 1)) (zK_x (a := 50) (x := 9) (v := (J 50 9) + 1) (zK_x (a := 50) (x := 8) (v := (J 29 5) - 1) (zK_u (a := 9) (x := (J 30 ((J 29 5) - 1)) * 5 + (J 31 ((J 29 5) - 1))) (v := J 32 ((J 29 5) - 1)) (zK_x (a := 29) (x := 5) (v := (J 29 5) - 1) (zK_r (k := (kL [] [(29, 5), (50, 8), (50, 9)])) (A := J)) rfl)) rfl) rfl))
                    have ev : J 59 ((J 29 5) - 1) = J 32 ((J 29 5) - 1) := by omega
                    have hY2 := RelY_k hs (by repeat' constructor) (fun p => by repeat' constructor) (by rw [ev]; exact RelY_p (p := J 30 (J 29 5 - 1)) (w := 0) hY (by omega) (by omega) (zFit_c hfit (by omega)) (by omega) rfl (by omega))
                    have hs2 := (zK_x (a := 51) (x := J 58 ((J 29 5) - 1)) (v := J 59 ((J 29 5) - 1)) (zK_u (a := 50) (x := 9) (v := (J 50 9) + 1) (zK_u (a := 50) (x := 8) (v := (J 29 5) - 1) (zK_x (a := 9) (x := (J 30 ((J 29 5) - 1)) * 5 + (J 31 ((J 29 5) - 1))) (v := J 32 ((J 29 5) - 1)) (zK_u (a := 29) (x := 5) (v := (J 29 5) - 1) (zK_r (k := (kL [9, 51] [])) (A := J))) rfl))) rfl)
                    have hC2 := RelC_k hs2 (by repeat' constructor) (fun p => by repeat' constructor) (RelC_undo hC (by omega))
                    have hk := (zK_x (a := 51) (x := J 58 ((J 29 5) - 1)) (v := J 59 ((J 29 5) - 1)) (zK_x (a := 50) (x := 9) (v := (J 50 9) + 1) (zK_x (a := 50) (x := 8) (v := (J 29 5) - 1) (zK_x (a := 9) (x := (J 30 ((J 29 5) - 1)) * 5 + (J 31 ((J 29 5) - 1))) (v := J 32 ((J 29 5) - 1)) (zK_x (a := 29) (x := 5) (v := (J 29 5) - 1) (zK_r (k := (kL [9, 51] [(29, 5), (50, 8), (50, 9)])) (A := J)) rfl) rfl) rfl) rfl) rfl)
                    exact ⟨hR, hG, hY2, RelD_k hk (by repeat' constructor) (fun p => by repeat' constructor) hD, RelP_k hk (by repeat' constructor) (fun p => by repeat' constructor) hP, hC2, RelA_k hk (by repeat' constructor) (fun p => by repeat' constructor) hAc, RelS_k hk (zK_r (k := kM)) (fun x j a b => ⟨kL_38 (by decide) (by decide) x j a b, kM_38 x j a b⟩) (fun p => ⟨rfl, rfl, rfl⟩) rfl hS, RelT_k hk (by repeat' constructor) (fun p => by repeat' constructor) hTp, RelX_k hk (by repeat' constructor) (fun p => by repeat' constructor) hX, RelW_k hk ⟨rfl, rfl⟩ trivial hW⟩
                · have hxhq9 : J 57 ((J 29 5) - 1) = 1 := hxhq9
                  refine z_aload rfl rfl ?_
                  refine z_getR (r := 52) rfl rfl (hRr _ rm_50_3 (by decide)) ?_
                  refine z_iload rfl rfl ?_
                  refine z_iload rfl rfl ?_
                  refine z_iast (e := J 59 ((J 29 5) - 1)) rfl rfl (by decide) (by omega) rfl ?_
                  refine z_goto rfl ?_
                  refine z_vret rfl rfl ?_
                  show zW _ _ _ _ _ _ _ _ _ _
                  refine z_aload rfl rfl ?_
                  refine z_getI (v := (J 29 5) - 1) rfl rfl ((zU_n (by decide)).trans ((zU_x (by decide)).trans (zU_e))) ?_
                  refine z_iret rfl rfl ?_
                  refine ⟨?_, ?_⟩
                  · first | rfl | exact congrArg (fun v => some (zi v)) (by omega) | (exfalso; omega)
                  · have hs := (zK_u (a := 52) (x := J 58 ((J 29 5) - 1)) (v := J 59 ((J 29 5) - 1)) (zK_x (a := 50) (x := 9) (v := (J 50 9) + 1) (zK_x (a := 50) (x := 8) (v := (J 29 5) - 1) (zK_u (a := 9) (x := (J 30 ((J 29 5) - 1)) * 5 + (J 31 ((J 29 5) - 1))) (v := J 32 ((J 29 5) - 1)) (zK_x (a := 29) (x := 5) (v := (J 29 5) - 1) (zK_r (k := (kL [] [(29, 5), (50, 8), (50, 9)])) (A := J)) rfl)) rfl) rfl))
                    have ev : J 59 ((J 29 5) - 1) = J 32 ((J 29 5) - 1) := by omega
                    have hY2 := RelY_k hs (by repeat' constructor) (fun p => by repeat' constructor) (by rw [ev]; exact RelY_p (p := J 30 (J 29 5 - 1)) (w := 1) hY (by omega) (by omega) (zFit_c hfit (by omega)) (by omega) rfl (by omega))
                    have hs2 := (zK_x (a := 52) (x := J 58 ((J 29 5) - 1)) (v := J 59 ((J 29 5) - 1)) (zK_u (a := 50) (x := 9) (v := (J 50 9) + 1) (zK_u (a := 50) (x := 8) (v := (J 29 5) - 1) (zK_x (a := 9) (x := (J 30 ((J 29 5) - 1)) * 5 + (J 31 ((J 29 5) - 1))) (v := J 32 ((J 29 5) - 1)) (zK_u (a := 29) (x := 5) (v := (J 29 5) - 1) (zK_r (k := (kL [9, 52] [])) (A := J))) rfl))) rfl)
                    have hC2 := RelC_k hs2 (by repeat' constructor) (fun p => by repeat' constructor) (RelC_undo hC (by omega))
                    have hk := (zK_x (a := 52) (x := J 58 ((J 29 5) - 1)) (v := J 59 ((J 29 5) - 1)) (zK_x (a := 50) (x := 9) (v := (J 50 9) + 1) (zK_x (a := 50) (x := 8) (v := (J 29 5) - 1) (zK_x (a := 9) (x := (J 30 ((J 29 5) - 1)) * 5 + (J 31 ((J 29 5) - 1))) (v := J 32 ((J 29 5) - 1)) (zK_x (a := 29) (x := 5) (v := (J 29 5) - 1) (zK_r (k := (kL [9, 52] [(29, 5), (50, 8), (50, 9)])) (A := J)) rfl) rfl) rfl) rfl) rfl)
                    exact ⟨hR, hG, hY2, RelD_k hk (by repeat' constructor) (fun p => by repeat' constructor) hD, RelP_k hk (by repeat' constructor) (fun p => by repeat' constructor) hP, hC2, RelA_k hk (by repeat' constructor) (fun p => by repeat' constructor) hAc, RelS_k hk (zK_r (k := kM)) (fun x j a b => ⟨kL_38 (by decide) (by decide) x j a b, kM_38 x j a b⟩) (fun p => ⟨rfl, rfl, rfl⟩) rfl hS, RelT_k hk (by repeat' constructor) (fun p => by repeat' constructor) hTp, RelX_k hk (by repeat' constructor) (fun p => by repeat' constructor) hX, RelW_k hk ⟨rfl, rfl⟩ trivial hW⟩
                · have hxhq9 : J 57 ((J 29 5) - 1) = 2 := hxhq9
                  refine z_aload rfl rfl ?_
                  refine z_getR (r := 53) rfl rfl (hRr _ rm_50_4 (by decide)) ?_
                  refine z_iload rfl rfl ?_
                  refine z_iload rfl rfl ?_
                  refine z_iast (e := J 59 ((J 29 5) - 1)) rfl rfl (by decide) (by omega) rfl ?_
                  refine z_goto rfl ?_
                  refine z_vret rfl rfl ?_
                  show zW _ _ _ _ _ _ _ _ _ _
                  refine z_aload rfl rfl ?_
                  refine z_getI (v := (J 29 5) - 1) rfl rfl ((zU_n (by decide)).trans ((zU_x (by decide)).trans (zU_e))) ?_
                  refine z_iret rfl rfl ?_
                  refine ⟨?_, ?_⟩
                  · first | rfl | exact congrArg (fun v => some (zi v)) (by omega) | (exfalso; omega)
                  · have hs := (zK_u (a := 53) (x := J 58 ((J 29 5) - 1)) (v := J 59 ((J 29 5) - 1)) (zK_x (a := 50) (x := 9) (v := (J 50 9) + 1) (zK_x (a := 50) (x := 8) (v := (J 29 5) - 1) (zK_u (a := 9) (x := (J 30 ((J 29 5) - 1)) * 5 + (J 31 ((J 29 5) - 1))) (v := J 32 ((J 29 5) - 1)) (zK_x (a := 29) (x := 5) (v := (J 29 5) - 1) (zK_r (k := (kL [] [(29, 5), (50, 8), (50, 9)])) (A := J)) rfl)) rfl) rfl))
                    have ev : J 59 ((J 29 5) - 1) = J 32 ((J 29 5) - 1) := by omega
                    have hY2 := RelY_k hs (by repeat' constructor) (fun p => by repeat' constructor) (by rw [ev]; exact RelY_p (p := J 30 (J 29 5 - 1)) (w := 2) hY (by omega) (by omega) (zFit_c hfit (by omega)) (by omega) rfl (by omega))
                    have hs2 := (zK_x (a := 53) (x := J 58 ((J 29 5) - 1)) (v := J 59 ((J 29 5) - 1)) (zK_u (a := 50) (x := 9) (v := (J 50 9) + 1) (zK_u (a := 50) (x := 8) (v := (J 29 5) - 1) (zK_x (a := 9) (x := (J 30 ((J 29 5) - 1)) * 5 + (J 31 ((J 29 5) - 1))) (v := J 32 ((J 29 5) - 1)) (zK_u (a := 29) (x := 5) (v := (J 29 5) - 1) (zK_r (k := (kL [9, 53] [])) (A := J))) rfl))) rfl)
                    have hC2 := RelC_k hs2 (by repeat' constructor) (fun p => by repeat' constructor) (RelC_undo hC (by omega))
                    have hk := (zK_x (a := 53) (x := J 58 ((J 29 5) - 1)) (v := J 59 ((J 29 5) - 1)) (zK_x (a := 50) (x := 9) (v := (J 50 9) + 1) (zK_x (a := 50) (x := 8) (v := (J 29 5) - 1) (zK_x (a := 9) (x := (J 30 ((J 29 5) - 1)) * 5 + (J 31 ((J 29 5) - 1))) (v := J 32 ((J 29 5) - 1)) (zK_x (a := 29) (x := 5) (v := (J 29 5) - 1) (zK_r (k := (kL [9, 53] [(29, 5), (50, 8), (50, 9)])) (A := J)) rfl) rfl) rfl) rfl) rfl)
                    exact ⟨hR, hG, hY2, RelD_k hk (by repeat' constructor) (fun p => by repeat' constructor) hD, RelP_k hk (by repeat' constructor) (fun p => by repeat' constructor) hP, hC2, RelA_k hk (by repeat' constructor) (fun p => by repeat' constructor) hAc, RelS_k hk (zK_r (k := kM)) (fun x j a b => ⟨kL_38 (by decide) (by decide) x j a b, kM_38 x j a b⟩) (fun p => ⟨rfl, rfl, rfl⟩) rfl hS, RelT_k hk (by repeat' constructor) (fun p => by repeat' constructor) hTp, RelX_k hk (by repeat' constructor) (fun p => by repeat' constructor) hX, RelW_k hk ⟨rfl, rfl⟩ trivial hW⟩
                · have hxhq9 : J 57 ((J 29 5) - 1) = 3 := hxhq9
                  refine z_aload rfl rfl ?_
                  refine z_getR (r := 54) rfl rfl (hRr _ rm_50_5 (by decide)) ?_
                  refine z_iload rfl rfl ?_
                  refine z_iload rfl rfl ?_
                  refine z_iast (e := J 59 ((J 29 5) - 1)) rfl rfl (by decide) (by omega) rfl ?_
                  refine z_goto rfl ?_
                  refine z_vret rfl rfl ?_
                  show zW _ _ _ _ _ _ _ _ _ _
                  refine z_aload rfl rfl ?_
                  refine z_getI (v := (J 29 5) - 1) rfl rfl ((zU_n (by decide)).trans ((zU_x (by decide)).trans (zU_e))) ?_
                  refine z_iret rfl rfl ?_
                  refine ⟨?_, ?_⟩
                  · first | rfl | exact congrArg (fun v => some (zi v)) (by omega) | (exfalso; omega)
                  · have hs := (zK_u (a := 54) (x := J 58 ((J 29 5) - 1)) (v := J 59 ((J 29 5) - 1)) (zK_x (a := 50) (x := 9) (v := (J 50 9) + 1) (zK_x (a := 50) (x := 8) (v := (J 29 5) - 1) (zK_u (a := 9) (x := (J 30 ((J 29 5) - 1)) * 5 + (J 31 ((J 29 5) - 1))) (v := J 32 ((J 29 5) - 1)) (zK_x (a := 29) (x := 5) (v := (J 29 5) - 1) (zK_r (k := (kL [] [(29, 5), (50, 8), (50, 9)])) (A := J)) rfl)) rfl) rfl))
                    have ev : J 59 ((J 29 5) - 1) = J 32 ((J 29 5) - 1) := by omega
                    have hY2 := RelY_k hs (by repeat' constructor) (fun p => by repeat' constructor) (by rw [ev]; exact RelY_p (p := J 30 (J 29 5 - 1)) (w := 3) hY (by omega) (by omega) (zFit_c hfit (by omega)) (by omega) rfl (by omega))
                    have hs2 := (zK_x (a := 54) (x := J 58 ((J 29 5) - 1)) (v := J 59 ((J 29 5) - 1)) (zK_u (a := 50) (x := 9) (v := (J 50 9) + 1) (zK_u (a := 50) (x := 8) (v := (J 29 5) - 1) (zK_x (a := 9) (x := (J 30 ((J 29 5) - 1)) * 5 + (J 31 ((J 29 5) - 1))) (v := J 32 ((J 29 5) - 1)) (zK_u (a := 29) (x := 5) (v := (J 29 5) - 1) (zK_r (k := (kL [9, 54] [])) (A := J))) rfl))) rfl)
                    have hC2 := RelC_k hs2 (by repeat' constructor) (fun p => by repeat' constructor) (RelC_undo hC (by omega))
                    have hk := (zK_x (a := 54) (x := J 58 ((J 29 5) - 1)) (v := J 59 ((J 29 5) - 1)) (zK_x (a := 50) (x := 9) (v := (J 50 9) + 1) (zK_x (a := 50) (x := 8) (v := (J 29 5) - 1) (zK_x (a := 9) (x := (J 30 ((J 29 5) - 1)) * 5 + (J 31 ((J 29 5) - 1))) (v := J 32 ((J 29 5) - 1)) (zK_x (a := 29) (x := 5) (v := (J 29 5) - 1) (zK_r (k := (kL [9, 54] [(29, 5), (50, 8), (50, 9)])) (A := J)) rfl) rfl) rfl) rfl) rfl)
                    exact ⟨hR, hG, hY2, RelD_k hk (by repeat' constructor) (fun p => by repeat' constructor) hD, RelP_k hk (by repeat' constructor) (fun p => by repeat' constructor) hP, hC2, RelA_k hk (by repeat' constructor) (fun p => by repeat' constructor) hAc, RelS_k hk (zK_r (k := kM)) (fun x j a b => ⟨kL_38 (by decide) (by decide) x j a b, kM_38 x j a b⟩) (fun p => ⟨rfl, rfl, rfl⟩) rfl hS, RelT_k hk (by repeat' constructor) (fun p => by repeat' constructor) hTp, RelX_k hk (by repeat' constructor) (fun p => by repeat' constructor) hX, RelW_k hk ⟨rfl, rfl⟩ trivial hW⟩
                · have hxhq9 : J 57 ((J 29 5) - 1) = 4 := hxhq9
                  refine z_aload rfl rfl ?_
                  refine z_getR (r := 55) rfl rfl (hRr _ rm_50_6 (by decide)) ?_
                  refine z_iload rfl rfl ?_
                  refine z_iload rfl rfl ?_
                  refine z_iast (e := J 59 ((J 29 5) - 1)) rfl rfl (by decide) (by omega) rfl ?_
                  refine z_goto rfl ?_
                  refine z_vret rfl rfl ?_
                  show zW _ _ _ _ _ _ _ _ _ _
                  refine z_aload rfl rfl ?_
                  refine z_getI (v := (J 29 5) - 1) rfl rfl ((zU_n (by decide)).trans ((zU_x (by decide)).trans (zU_e))) ?_
                  refine z_iret rfl rfl ?_
                  refine ⟨?_, ?_⟩
                  · first | rfl | exact congrArg (fun v => some (zi v)) (by omega) | (exfalso; omega)
                  · have hs := (zK_u (a := 55) (x := J 58 ((J 29 5) - 1)) (v := J 59 ((J 29 5) - 1)) (zK_x (a := 50) (x := 9) (v := (J 50 9) + 1) (zK_x (a := 50) (x := 8) (v := (J 29 5) - 1) (zK_u (a := 9) (x := (J 30 ((J 29 5) - 1)) * 5 + (J 31 ((J 29 5) - 1))) (v := J 32 ((J 29 5) - 1)) (zK_x (a := 29) (x := 5) (v := (J 29 5) - 1) (zK_r (k := (kL [] [(29, 5), (50, 8), (50, 9)])) (A := J)) rfl)) rfl) rfl))
                    have ev : J 59 ((J 29 5) - 1) = J 32 ((J 29 5) - 1) := by omega
                    have hY2 := RelY_k hs (by repeat' constructor) (fun p => by repeat' constructor) (by rw [ev]; exact RelY_p (p := J 30 (J 29 5 - 1)) (w := 4) hY (by omega) (by omega) (zFit_c hfit (by omega)) (by omega) rfl (by omega))
                    have hs2 := (zK_x (a := 55) (x := J 58 ((J 29 5) - 1)) (v := J 59 ((J 29 5) - 1)) (zK_u (a := 50) (x := 9) (v := (J 50 9) + 1) (zK_u (a := 50) (x := 8) (v := (J 29 5) - 1) (zK_x (a := 9) (x := (J 30 ((J 29 5) - 1)) * 5 + (J 31 ((J 29 5) - 1))) (v := J 32 ((J 29 5) - 1)) (zK_u (a := 29) (x := 5) (v := (J 29 5) - 1) (zK_r (k := (kL [9, 55] [])) (A := J))) rfl))) rfl)
                    have hC2 := RelC_k hs2 (by repeat' constructor) (fun p => by repeat' constructor) (RelC_undo hC (by omega))
                    have hk := (zK_x (a := 55) (x := J 58 ((J 29 5) - 1)) (v := J 59 ((J 29 5) - 1)) (zK_x (a := 50) (x := 9) (v := (J 50 9) + 1) (zK_x (a := 50) (x := 8) (v := (J 29 5) - 1) (zK_x (a := 9) (x := (J 30 ((J 29 5) - 1)) * 5 + (J 31 ((J 29 5) - 1))) (v := J 32 ((J 29 5) - 1)) (zK_x (a := 29) (x := 5) (v := (J 29 5) - 1) (zK_r (k := (kL [9, 55] [(29, 5), (50, 8), (50, 9)])) (A := J)) rfl) rfl) rfl) rfl) rfl)
                    exact ⟨hR, hG, hY2, RelD_k hk (by repeat' constructor) (fun p => by repeat' constructor) hD, RelP_k hk (by repeat' constructor) (fun p => by repeat' constructor) hP, hC2, RelA_k hk (by repeat' constructor) (fun p => by repeat' constructor) hAc, RelS_k hk (zK_r (k := kM)) (fun x j a b => ⟨kL_38 (by decide) (by decide) x j a b, kM_38 x j a b⟩) (fun p => ⟨rfl, rfl, rfl⟩) rfl hS, RelT_k hk (by repeat' constructor) (fun p => by repeat' constructor) hTp, RelX_k hk (by repeat' constructor) (fun p => by repeat' constructor) hX, RelW_k hk ⟨rfl, rfl⟩ trivial hW⟩
              · have hq9 : ∀ q ∈ [((0 : Int), 36), ((1 : Int), 46), ((2 : Int), 56), ((3 : Int), 66), ((4 : Int), 76)], ¬ J 57 ((J 29 5) - 1) = q.1 := hq9
                have hq9_0 : ¬ J 57 ((J 29 5) - 1) = 0 := hq9 (0, 36) (by simp)
                have hq9_1 : ¬ J 57 ((J 29 5) - 1) = 1 := hq9 (1, 46) (by simp)
                have hq9_2 : ¬ J 57 ((J 29 5) - 1) = 2 := hq9 (2, 56) (by simp)
                have hq9_3 : ¬ J 57 ((J 29 5) - 1) = 3 := hq9 (3, 66) (by simp)
                have hq9_4 : ¬ J 57 ((J 29 5) - 1) = 4 := hq9 (4, 76) (by simp)
                refine z_aload rfl rfl ?_
                refine z_getR (r := 56) rfl rfl (hRr _ rm_50_7 (by decide)) ?_
                refine z_iload rfl rfl ?_
                refine z_pushI (z := 5) rfl rfl ?_
                refine z_isub (e := (J 57 ((J 29 5) - 1)) - 5) rfl rfl ?_
                refine z_iload rfl rfl ?_
                refine z_iast (e := J 59 ((J 29 5) - 1)) rfl rfl (by decide) (by omega) rfl ?_
                refine z_vret rfl rfl ?_
                show zW _ _ _ _ _ _ _ _ _ _
                refine z_aload rfl rfl ?_
                refine z_getI (v := (J 29 5) - 1) rfl rfl ((zU_n (by decide)).trans ((zU_x (by decide)).trans (zU_e))) ?_
                refine z_iret rfl rfl ?_
                refine ⟨?_, ?_⟩
                · first | rfl | exact congrArg (fun v => some (zi v)) (by omega) | (exfalso; omega)
                · have hs := (zK_u (a := 56) (x := (J 57 ((J 29 5) - 1)) - 5) (v := J 59 ((J 29 5) - 1)) (zK_x (a := 50) (x := 9) (v := (J 50 9) + 1) (zK_x (a := 50) (x := 8) (v := (J 29 5) - 1) (zK_u (a := 9) (x := (J 30 ((J 29 5) - 1)) * 5 + (J 31 ((J 29 5) - 1))) (v := J 32 ((J 29 5) - 1)) (zK_x (a := 29) (x := 5) (v := (J 29 5) - 1) (zK_r (k := (kL [] [(29, 5), (50, 8), (50, 9)])) (A := J)) rfl)) rfl) rfl))
                  have ev : J 59 ((J 29 5) - 1) = J 32 ((J 29 5) - 1) := by omega
                  have hY2 := RelY_k hs (by repeat' constructor) (fun p => by repeat' constructor) (by rw [ev]; exact RelY_g (w := J 31 (J 29 5 - 1)) hY (by omega) hfit (by omega) (by omega))
                  have hs2 := (zK_x (a := 56) (x := (J 57 ((J 29 5) - 1)) - 5) (v := J 59 ((J 29 5) - 1)) (zK_u (a := 50) (x := 9) (v := (J 50 9) + 1) (zK_u (a := 50) (x := 8) (v := (J 29 5) - 1) (zK_x (a := 9) (x := (J 30 ((J 29 5) - 1)) * 5 + (J 31 ((J 29 5) - 1))) (v := J 32 ((J 29 5) - 1)) (zK_u (a := 29) (x := 5) (v := (J 29 5) - 1) (zK_r (k := (kL [9, 56] [])) (A := J))) rfl))) rfl)
                  have hC2 := RelC_k hs2 (by repeat' constructor) (fun p => by repeat' constructor) (RelC_undo hC (by omega))
                  have hk := (zK_x (a := 56) (x := (J 57 ((J 29 5) - 1)) - 5) (v := J 59 ((J 29 5) - 1)) (zK_x (a := 50) (x := 9) (v := (J 50 9) + 1) (zK_x (a := 50) (x := 8) (v := (J 29 5) - 1) (zK_x (a := 9) (x := (J 30 ((J 29 5) - 1)) * 5 + (J 31 ((J 29 5) - 1))) (v := J 32 ((J 29 5) - 1)) (zK_x (a := 29) (x := 5) (v := (J 29 5) - 1) (zK_r (k := (kL [9, 56] [(29, 5), (50, 8), (50, 9)])) (A := J)) rfl) rfl) rfl) rfl) rfl)
                  exact ⟨hR, hG, hY2, RelD_k hk (by repeat' constructor) (fun p => by repeat' constructor) hD, RelP_k hk (by repeat' constructor) (fun p => by repeat' constructor) hP, hC2, RelA_k hk (by repeat' constructor) (fun p => by repeat' constructor) hAc, RelS_k hk (zK_r (k := kM)) (fun x j a b => ⟨kL_38 (by decide) (by decide) x j a b, kM_38 x j a b⟩) (fun p => ⟨rfl, rfl, rfl⟩) rfl hS, RelT_k hk (by repeat' constructor) (fun p => by repeat' constructor) hTp, RelX_k hk (by repeat' constructor) (fun p => by repeat' constructor) hX, RelW_k hk ⟨rfl, rfl⟩ trivial hW⟩
    · refine z_pushI (z := (-1)) rfl rfl ?_
      refine z_iret rfl rfl ?_
      show zW _ _ _ _ _ _ _ _ _ _
      refine z_istore rfl rfl ?_
      refine z_iload rfl rfl ?_
      refine z_if_ltT rfl (by decide) (by decide) ?_
      refine z_vret rfl rfl ?_
      show zW _ _ _ _ _ _ _ _ _ _
      refine z_pushI (z := 1) rfl rfl ?_
      refine z_bret rfl rfl (by decide) ?_
      show zW _ _ _ _ _ _ _ _ _ _
      refine z_if_eqF rfl (by decide) (by decide) ?_
      refine z_aload rfl rfl ?_
      refine z_getR (r := 29) rfl rfl (hR _ rm_0_9) ?_
      refine z_getI (v := (J 29 5) - 1) rfl rfl (zU_e) ?_
      refine z_goto rfl ?_
      refine z_iret rfl rfl ?_
      refine ⟨_, rfl, ?_⟩
      show zW _ _ _ _ [some (.ref 50)] _ _ _ _ _
      refine z_aload rfl rfl ?_
      refine z_getI (v := J 29 5) rfl rfl ((zU_n (by decide)).trans (c1.symm)) ?_
      refine z_if_neT rfl (by omega) (by omega) ?_
      refine z_aload rfl rfl ?_
      refine z_dup rfl rfl ?_
      refine z_getI (v := J 29 5) rfl rfl ((zU_n (by decide)).trans (c1.symm)) ?_
      refine z_pushI (z := 1) rfl rfl ?_
      refine z_isub (e := (J 29 5) - 1) rfl rfl ?_
      refine z_putI (y := 8) rfl rfl rfl ?_
      refine z_aload rfl rfl ?_
      refine z_dup rfl rfl ?_
      refine z_getI (v := J 50 9) rfl rfl ((zU_x (by decide)).trans ((zU_n (by decide)).trans (rfl))) ?_
      refine z_pushI (z := 1) rfl rfl ?_
      refine z_iadd (e := (J 50 9) + 1) rfl rfl ?_
      refine z_putI (y := 9) rfl rfl rfl ?_
      refine z_aload rfl rfl ?_
      refine z_aload rfl rfl ?_
      refine z_getR (r := 57) rfl rfl (hRr _ rm_50_10 (by decide)) ?_
      refine z_aload rfl rfl ?_
      refine z_getI (v := (J 29 5) - 1) rfl rfl ((zU_x (by decide)).trans (zU_e)) ?_
      refine z_iald (v := J 57 ((J 29 5) - 1)) rfl rfl (by decide) (by omega) ((zU_n (by decide)).trans ((zU_n (by decide)).trans ((zU_n (by decide)).trans (rfl)))) ?_
      refine z_aload rfl rfl ?_
      refine z_getR (r := 58) rfl rfl (hRr _ rm_50_11 (by decide)) ?_
      refine z_aload rfl rfl ?_
      refine z_getI (v := (J 29 5) - 1) rfl rfl ((zU_x (by decide)).trans (zU_e)) ?_
      refine z_iald (v := J 58 ((J 29 5) - 1)) rfl rfl (by decide) (by omega) ((zU_n (by decide)).trans ((zU_n (by decide)).trans ((zU_n (by decide)).trans (rfl)))) ?_
      refine z_aload rfl rfl ?_
      refine z_getR (r := 59) rfl rfl (hRr _ rm_50_12 (by decide)) ?_
      refine z_aload rfl rfl ?_
      refine z_getI (v := (J 29 5) - 1) rfl rfl ((zU_x (by decide)).trans (zU_e)) ?_
      refine z_iald (v := J 59 ((J 29 5) - 1)) rfl rfl (by decide) (by omega) ((zU_n (by decide)).trans ((zU_n (by decide)).trans ((zU_n (by decide)).trans (rfl)))) ?_
      refine z_callVi (As := [_, _, _]) (le := [some _, some _, some _, some _]) rfl rfl rfl (Nat.le_of_ble_eq_true rfl) (Nat.le_of_ble_eq_true rfl) rfl ?_
      refine z_iload rfl rfl ?_
      refine z_sw (T := [((0 : Int), 36), ((1 : Int), 46), ((2 : Int), 56), ((3 : Int), 66), ((4 : Int), 76)]) rfl (by omega) rfl (fun q hq9 hxhq9 => ?_) (fun hq9 => ?_)
      · simp only [List.mem_cons, List.not_mem_nil, or_false] at hq9
        rcases hq9 with rfl | rfl | rfl | rfl | rfl
        · have hxhq9 : J 57 ((J 29 5) - 1) = 0 := hxhq9
          refine z_aload rfl rfl ?_
          refine z_getR (r := 51) rfl rfl (hRr _ rm_50_2 (by decide)) ?_
          refine z_iload rfl rfl ?_
          refine z_iload rfl rfl ?_
          refine z_iast (e := J 59 ((J 29 5) - 1)) rfl rfl (by decide) (by omega) rfl ?_
          refine z_goto rfl ?_
          refine z_vret rfl rfl ?_
          show zW _ _ _ _ _ _ _ _ _ _
          refine z_aload rfl rfl ?_
          refine z_getI (v := (J 29 5) - 1) rfl rfl ((zU_n (by decide)).trans ((zU_x (by decide)).trans (zU_e))) ?_
          refine z_iret rfl rfl ?_
          refine ⟨?_, ?_⟩
          · first | rfl | exact congrArg (fun v => some (zi v)) (by omega) | (exfalso; omega)
          · exfalso
            omega
        · have hxhq9 : J 57 ((J 29 5) - 1) = 1 := hxhq9
          refine z_aload rfl rfl ?_
          refine z_getR (r := 52) rfl rfl (hRr _ rm_50_3 (by decide)) ?_
          refine z_iload rfl rfl ?_
          refine z_iload rfl rfl ?_
          refine z_iast (e := J 59 ((J 29 5) - 1)) rfl rfl (by decide) (by omega) rfl ?_
          refine z_goto rfl ?_
          refine z_vret rfl rfl ?_
          show zW _ _ _ _ _ _ _ _ _ _
          refine z_aload rfl rfl ?_
          refine z_getI (v := (J 29 5) - 1) rfl rfl ((zU_n (by decide)).trans ((zU_x (by decide)).trans (zU_e))) ?_
          refine z_iret rfl rfl ?_
          refine ⟨?_, ?_⟩
          · first | rfl | exact congrArg (fun v => some (zi v)) (by omega) | (exfalso; omega)
          · exfalso
            omega
        · have hxhq9 : J 57 ((J 29 5) - 1) = 2 := hxhq9
          refine z_aload rfl rfl ?_
          refine z_getR (r := 53) rfl rfl (hRr _ rm_50_4 (by decide)) ?_
          refine z_iload rfl rfl ?_
          refine z_iload rfl rfl ?_
          refine z_iast (e := J 59 ((J 29 5) - 1)) rfl rfl (by decide) (by omega) rfl ?_
          refine z_goto rfl ?_
          refine z_vret rfl rfl ?_
          show zW _ _ _ _ _ _ _ _ _ _
          refine z_aload rfl rfl ?_
          refine z_getI (v := (J 29 5) - 1) rfl rfl ((zU_n (by decide)).trans ((zU_x (by decide)).trans (zU_e))) ?_
          refine z_iret rfl rfl ?_
          refine ⟨?_, ?_⟩
          · first | rfl | exact congrArg (fun v => some (zi v)) (by omega) | (exfalso; omega)
          · exfalso
            omega
        · have hxhq9 : J 57 ((J 29 5) - 1) = 3 := hxhq9
          refine z_aload rfl rfl ?_
          refine z_getR (r := 54) rfl rfl (hRr _ rm_50_5 (by decide)) ?_
          refine z_iload rfl rfl ?_
          refine z_iload rfl rfl ?_
          refine z_iast (e := J 59 ((J 29 5) - 1)) rfl rfl (by decide) (by omega) rfl ?_
          refine z_goto rfl ?_
          refine z_vret rfl rfl ?_
          show zW _ _ _ _ _ _ _ _ _ _
          refine z_aload rfl rfl ?_
          refine z_getI (v := (J 29 5) - 1) rfl rfl ((zU_n (by decide)).trans ((zU_x (by decide)).trans (zU_e))) ?_
          refine z_iret rfl rfl ?_
          refine ⟨?_, ?_⟩
          · first | rfl | exact congrArg (fun v => some (zi v)) (by omega) | (exfalso; omega)
          · exfalso
            omega
        · have hxhq9 : J 57 ((J 29 5) - 1) = 4 := hxhq9
          refine z_aload rfl rfl ?_
          refine z_getR (r := 55) rfl rfl (hRr _ rm_50_6 (by decide)) ?_
          refine z_iload rfl rfl ?_
          refine z_iload rfl rfl ?_
          refine z_iast (e := J 59 ((J 29 5) - 1)) rfl rfl (by decide) (by omega) rfl ?_
          refine z_goto rfl ?_
          refine z_vret rfl rfl ?_
          show zW _ _ _ _ _ _ _ _ _ _
          refine z_aload rfl rfl ?_
          refine z_getI (v := (J 29 5) - 1) rfl rfl ((zU_n (by decide)).trans ((zU_x (by decide)).trans (zU_e))) ?_
          refine z_iret rfl rfl ?_
          refine ⟨?_, ?_⟩
          · first | rfl | exact congrArg (fun v => some (zi v)) (by omega) | (exfalso; omega)
          · exfalso
            omega
      · have hq9 : ∀ q ∈ [((0 : Int), 36), ((1 : Int), 46), ((2 : Int), 56), ((3 : Int), 66), ((4 : Int), 76)], ¬ J 57 ((J 29 5) - 1) = q.1 := hq9
        have hq9_0 : ¬ J 57 ((J 29 5) - 1) = 0 := hq9 (0, 36) (by simp)
        have hq9_1 : ¬ J 57 ((J 29 5) - 1) = 1 := hq9 (1, 46) (by simp)
        have hq9_2 : ¬ J 57 ((J 29 5) - 1) = 2 := hq9 (2, 56) (by simp)
        have hq9_3 : ¬ J 57 ((J 29 5) - 1) = 3 := hq9 (3, 66) (by simp)
        have hq9_4 : ¬ J 57 ((J 29 5) - 1) = 4 := hq9 (4, 76) (by simp)
        refine z_aload rfl rfl ?_
        refine z_getR (r := 56) rfl rfl (hRr _ rm_50_7 (by decide)) ?_
        refine z_iload rfl rfl ?_
        refine z_pushI (z := 5) rfl rfl ?_
        refine z_isub (e := (J 57 ((J 29 5) - 1)) - 5) rfl rfl ?_
        refine z_iload rfl rfl ?_
        refine z_iast (e := J 59 ((J 29 5) - 1)) rfl rfl (by decide) (by omega) rfl ?_
        refine z_vret rfl rfl ?_
        show zW _ _ _ _ _ _ _ _ _ _
        refine z_aload rfl rfl ?_
        refine z_getI (v := (J 29 5) - 1) rfl rfl ((zU_n (by decide)).trans ((zU_x (by decide)).trans (zU_e))) ?_
        refine z_iret rfl rfl ?_
        refine ⟨?_, ?_⟩
        · first | rfl | exact congrArg (fun v => some (zi v)) (by omega) | (exfalso; omega)
        · exfalso
          omega
theorem st_undo {X : Nat × (Nat → Int32)} {d : Nat} {J M : zA} {R : zR} (hr : Rel X J M R) : zW X (d + 20) 131 0 (gEn 131 [.ref 0]) [] J M R (stP X (d + 20) 158 []) := by
  by_cases h0 : J 29 5 ≤ 0
  · exact st_undo_0 hr h0
  · exact st_undo_1 hr h0
theorem st_redo_0 {X : Nat × (Nat → Int32)} {d : Nat} {J M : zA} {R : zR} (hr : Rel X J M R)  (h0 : J 29 6 ≤ J 29 5) : zW X (d + 20) 132 0 (gEn 132 [(.ref 0)]) [] J M R (stP X (d + 20) 159 []) := by
  have hr0 := hr
  obtain ⟨hR, hG, hY, hD, hP, hC, hAc, hS, hTp, hX, hW⟩ := hr0
  have hRr : zRoR R := zRoR_of hR
  have hY0 := hY
  obtain ⟨y1, y2, y3⟩ := hY0
  have yn := zNn y3
  have hC0 := hC
  obtain ⟨c1, c2, c3, c4, c5, c6⟩ := hC0
  show zW _ _ _ _ [some (.ref 0)] _ _ _ _ _
  refine z_aload rfl rfl ?_
  refine z_getR (r := 29) rfl rfl (hR _ rm_0_9) ?_
  refine z_callVi (As := []) (le := [some _]) rfl rfl rfl (Nat.le_of_ble_eq_true rfl) (Nat.le_of_ble_eq_true rfl) rfl ?_
  refine z_aload rfl rfl ?_
  refine z_getI (v := J 29 5) rfl rfl (rfl) ?_
  refine z_aload rfl rfl ?_
  refine z_getI (v := J 29 6) rfl rfl (rfl) ?_
  refine z_icmp_ltF rfl (by omega) (by omega) (by omega) ?_
  refine z_pushI (z := 0) rfl rfl ?_
  refine z_bret rfl rfl (by decide) ?_
  show zW _ _ _ _ _ _ _ _ _ _
  refine z_if_eqT rfl (by decide) (by decide) ?_
  refine z_pushI (z := (-5)) rfl rfl ?_
  refine z_iret rfl rfl ?_
  refine ⟨_, rfl, ?_⟩
  show zW _ _ _ _ [some (.ref 50)] _ _ _ _ _
  refine z_aload rfl rfl ?_
  refine z_getI (v := J 50 9) rfl rfl (rfl) ?_
  refine z_if_neF rfl (by omega) (by omega) ?_
  refine z_pushI (z := (-5)) rfl rfl ?_
  refine z_iret rfl rfl ?_
  refine ⟨?_, ?_⟩
  · first | rfl | exact congrArg (fun v => some (zi v)) (by omega) | (exfalso; omega)
  · exact hr
theorem st_redo_1 {X : Nat × (Nat → Int32)} {d : Nat} {J M : zA} {R : zR} (hr : Rel X J M R)  (h0 : ¬ J 29 6 ≤ J 29 5) : zW X (d + 20) 132 0 (gEn 132 [(.ref 0)]) [] J M R (stP X (d + 20) 159 []) := by
  have hr0 := hr
  obtain ⟨hR, hG, hY, hD, hP, hC, hAc, hS, hTp, hX, hW⟩ := hr0
  have hRr : zRoR R := zRoR_of hR
  have hY0 := hY
  obtain ⟨y1, y2, y3⟩ := hY0
  have yn := zNn y3
  have hC0 := hC
  obtain ⟨c1, c2, c3, c4, c5, c6⟩ := hC0
  have ci := RelC_i hC (i := J 29 5) (by omega) (by omega)
  obtain ⟨⟨ci1, ci2, ci3, ci4⟩, ci5, ci6, ci7⟩ := ci
  have hfit : zFit (J 31 (J 29 5)) (J 33 (J 29 5)) := ci7
  have rv := zFit_r (w := J 31 (J 29 5)) (by omega) hfit
  show zW _ _ _ _ [some (.ref 0)] _ _ _ _ _
  refine z_aload rfl rfl ?_
  refine z_getR (r := 29) rfl rfl (hR _ rm_0_9) ?_
  refine z_callVi (As := []) (le := [some _]) rfl rfl rfl (Nat.le_of_ble_eq_true rfl) (Nat.le_of_ble_eq_true rfl) rfl ?_
  refine z_aload rfl rfl ?_
  refine z_getI (v := J 29 5) rfl rfl (rfl) ?_
  refine z_aload rfl rfl ?_
  refine z_getI (v := J 29 6) rfl rfl (rfl) ?_
  refine z_icmp_ltT rfl (by omega) (by omega) (by omega) ?_
  refine z_aload rfl rfl ?_
  refine z_getR (r := 8) rfl rfl (hR _ rm_29_0) ?_
  refine z_aload rfl rfl ?_
  refine z_getR (r := 30) rfl rfl (hR _ rm_29_1) ?_
  refine z_aload rfl rfl ?_
  refine z_getI (v := J 29 5) rfl rfl (rfl) ?_
  refine z_iald (v := J 30 (J 29 5)) rfl rfl (by decide) (by omega) (rfl) ?_
  refine z_aload rfl rfl ?_
  refine z_getR (r := 31) rfl rfl (hR _ rm_29_2) ?_
  refine z_aload rfl rfl ?_
  refine z_getI (v := J 29 5) rfl rfl (rfl) ?_
  refine z_iald (v := J 31 (J 29 5)) rfl rfl (by decide) (by omega) (rfl) ?_
  refine z_aload rfl rfl ?_
  refine z_getR (r := 33) rfl rfl (hR _ rm_29_4) ?_
  refine z_aload rfl rfl ?_
  refine z_getI (v := J 29 5) rfl rfl (rfl) ?_
  refine z_iald (v := J 33 (J 29 5)) rfl rfl (by decide) (by omega) (rfl) ?_
  refine z_callVi (As := [_, _, _]) (le := [some _, some _, some _, some _, none]) rfl rfl rfl (Nat.le_of_ble_eq_true rfl) (Nat.le_of_ble_eq_true rfl) rfl ?_
  refine z_aload rfl rfl ?_
  refine z_iload rfl rfl ?_
  refine z_iload rfl rfl ?_
  refine z_callVi (As := [_, _]) (le := [some _, some _, some _]) rfl rfl rfl (Nat.le_of_ble_eq_true rfl) (Nat.le_of_ble_eq_true rfl) rfl ?_
  refine z_iload rfl rfl ?_
  refine z_if_lt rfl (by omega) (fun h1 => ?_) (fun h1 => ?_)
  · refine z_pushI (z := (-1)) rfl rfl ?_
    refine z_iret rfl rfl ?_
    show zW _ _ _ _ _ _ _ _ _ _
    refine z_istore rfl rfl ?_
    refine z_iload rfl rfl ?_
    refine z_if_ltT rfl (by decide) (by decide) ?_
    refine z_vret rfl rfl ?_
    show zW _ _ _ _ _ _ _ _ _ _
    refine z_aload rfl rfl ?_
    refine z_dup rfl rfl ?_
    refine z_getI (v := J 29 5) rfl rfl (rfl) ?_
    refine z_pushI (z := 1) rfl rfl ?_
    refine z_iadd (e := (J 29 5) + 1) rfl rfl ?_
    refine z_putI (y := 5) rfl rfl rfl ?_
    refine z_pushI (z := 1) rfl rfl ?_
    refine z_bret rfl rfl (by decide) ?_
    show zW _ _ _ _ _ _ _ _ _ _
    refine z_if_eqF rfl (by decide) (by decide) ?_
    refine z_aload rfl rfl ?_
    refine z_getR (r := 29) rfl rfl (hR _ rm_0_9) ?_
    refine z_getI (v := J 29 6) rfl rfl ((zU_x (by decide)).trans (rfl)) ?_
    refine z_aload rfl rfl ?_
    refine z_getR (r := 29) rfl rfl (hR _ rm_0_9) ?_
    refine z_getI (v := (J 29 5) + 1) rfl rfl (zU_e) ?_
    refine z_isub (e := (J 29 6) - ((J 29 5) + 1)) rfl rfl ?_
    refine z_goto rfl ?_
    refine z_iret rfl rfl ?_
    refine ⟨_, rfl, ?_⟩
    show zW _ _ _ _ [some (.ref 50)] _ _ _ _ _
    refine z_aload rfl rfl ?_
    refine z_getI (v := J 50 9) rfl rfl ((zU_n (by decide)).trans (rfl)) ?_
    refine z_if_neT rfl (by omega) (by omega) ?_
    refine z_aload rfl rfl ?_
    refine z_aload rfl rfl ?_
    refine z_getR (r := 57) rfl rfl (hRr _ rm_50_10 (by decide)) ?_
    refine z_aload rfl rfl ?_
    refine z_getI (v := J 29 5) rfl rfl ((zU_n (by decide)).trans (c1.symm)) ?_
    refine z_iald (v := J 57 (J 29 5)) rfl rfl (by decide) (by omega) ((zU_n (by decide)).trans (rfl)) ?_
    refine z_aload rfl rfl ?_
    refine z_getR (r := 58) rfl rfl (hRr _ rm_50_11 (by decide)) ?_
    refine z_aload rfl rfl ?_
    refine z_getI (v := J 29 5) rfl rfl ((zU_n (by decide)).trans (c1.symm)) ?_
    refine z_iald (v := J 58 (J 29 5)) rfl rfl (by decide) (by omega) ((zU_n (by decide)).trans (rfl)) ?_
    refine z_aload rfl rfl ?_
    refine z_getR (r := 60) rfl rfl (hRr _ rm_50_13 (by decide)) ?_
    refine z_aload rfl rfl ?_
    refine z_getI (v := J 29 5) rfl rfl ((zU_n (by decide)).trans (c1.symm)) ?_
    refine z_iald (v := J 60 (J 29 5)) rfl rfl (by decide) (by omega) ((zU_n (by decide)).trans (rfl)) ?_
    refine z_callVi (As := [_, _, _]) (le := [some _, some _, some _, some _]) rfl rfl rfl (Nat.le_of_ble_eq_true rfl) (Nat.le_of_ble_eq_true rfl) rfl ?_
    refine z_iload rfl rfl ?_
    refine z_sw (T := [((0 : Int), 36), ((1 : Int), 46), ((2 : Int), 56), ((3 : Int), 66), ((4 : Int), 76)]) rfl (by omega) rfl (fun q hq2 hxhq2 => ?_) (fun hq2 => ?_)
    · simp only [List.mem_cons, List.not_mem_nil, or_false] at hq2
      rcases hq2 with rfl | rfl | rfl | rfl | rfl
      · have hxhq2 : J 57 (J 29 5) = 0 := hxhq2
        refine z_aload rfl rfl ?_
        refine z_getR (r := 51) rfl rfl (hRr _ rm_50_2 (by decide)) ?_
        refine z_iload rfl rfl ?_
        refine z_iload rfl rfl ?_
        refine z_iast (e := J 60 (J 29 5)) rfl rfl (by decide) (by omega) rfl ?_
        refine z_goto rfl ?_
        refine z_vret rfl rfl ?_
        show zW _ _ _ _ _ _ _ _ _ _
        refine z_aload rfl rfl ?_
        refine z_dup rfl rfl ?_
        refine z_getI (v := J 29 5) rfl rfl ((zU_n (by decide)).trans ((zU_n (by decide)).trans (c1.symm))) ?_
        refine z_pushI (z := 1) rfl rfl ?_
        refine z_iadd (e := (J 29 5) + 1) rfl rfl ?_
        refine z_putI (y := 8) rfl rfl rfl ?_
        refine z_aload rfl rfl ?_
        refine z_dup rfl rfl ?_
        refine z_getI (v := J 50 9) rfl rfl ((zU_x (by decide)).trans ((zU_n (by decide)).trans ((zU_n (by decide)).trans (rfl)))) ?_
        refine z_pushI (z := 1) rfl rfl ?_
        refine z_isub (e := (J 50 9) - 1) rfl rfl ?_
        refine z_putI (y := 9) rfl rfl rfl ?_
        refine z_aload rfl rfl ?_
        refine z_getI (v := (J 50 9) - 1) rfl rfl (zU_e) ?_
        refine z_iret rfl rfl ?_
        refine ⟨?_, ?_⟩
        · first | rfl | exact congrArg (fun v => some (zi v)) (by omega) | (exfalso; omega)
        · exfalso
          omega
      · have hxhq2 : J 57 (J 29 5) = 1 := hxhq2
        refine z_aload rfl rfl ?_
        refine z_getR (r := 52) rfl rfl (hRr _ rm_50_3 (by decide)) ?_
        refine z_iload rfl rfl ?_
        refine z_iload rfl rfl ?_
        refine z_iast (e := J 60 (J 29 5)) rfl rfl (by decide) (by omega) rfl ?_
        refine z_goto rfl ?_
        refine z_vret rfl rfl ?_
        show zW _ _ _ _ _ _ _ _ _ _
        refine z_aload rfl rfl ?_
        refine z_dup rfl rfl ?_
        refine z_getI (v := J 29 5) rfl rfl ((zU_n (by decide)).trans ((zU_n (by decide)).trans (c1.symm))) ?_
        refine z_pushI (z := 1) rfl rfl ?_
        refine z_iadd (e := (J 29 5) + 1) rfl rfl ?_
        refine z_putI (y := 8) rfl rfl rfl ?_
        refine z_aload rfl rfl ?_
        refine z_dup rfl rfl ?_
        refine z_getI (v := J 50 9) rfl rfl ((zU_x (by decide)).trans ((zU_n (by decide)).trans ((zU_n (by decide)).trans (rfl)))) ?_
        refine z_pushI (z := 1) rfl rfl ?_
        refine z_isub (e := (J 50 9) - 1) rfl rfl ?_
        refine z_putI (y := 9) rfl rfl rfl ?_
        refine z_aload rfl rfl ?_
        refine z_getI (v := (J 50 9) - 1) rfl rfl (zU_e) ?_
        refine z_iret rfl rfl ?_
        refine ⟨?_, ?_⟩
        · first | rfl | exact congrArg (fun v => some (zi v)) (by omega) | (exfalso; omega)
        · exfalso
          omega
      · have hxhq2 : J 57 (J 29 5) = 2 := hxhq2
        refine z_aload rfl rfl ?_
        refine z_getR (r := 53) rfl rfl (hRr _ rm_50_4 (by decide)) ?_
        refine z_iload rfl rfl ?_
        refine z_iload rfl rfl ?_
        refine z_iast (e := J 60 (J 29 5)) rfl rfl (by decide) (by omega) rfl ?_
        refine z_goto rfl ?_
        refine z_vret rfl rfl ?_
        show zW _ _ _ _ _ _ _ _ _ _
        refine z_aload rfl rfl ?_
        refine z_dup rfl rfl ?_
        refine z_getI (v := J 29 5) rfl rfl ((zU_n (by decide)).trans ((zU_n (by decide)).trans (c1.symm))) ?_
        refine z_pushI (z := 1) rfl rfl ?_
        refine z_iadd (e := (J 29 5) + 1) rfl rfl ?_
        refine z_putI (y := 8) rfl rfl rfl ?_
        refine z_aload rfl rfl ?_
        refine z_dup rfl rfl ?_
        refine z_getI (v := J 50 9) rfl rfl ((zU_x (by decide)).trans ((zU_n (by decide)).trans ((zU_n (by decide)).trans (rfl)))) ?_
        refine z_pushI (z := 1) rfl rfl ?_
        refine z_isub (e := (J 50 9) - 1) rfl rfl ?_
        refine z_putI (y := 9) rfl rfl rfl ?_
        refine z_aload rfl rfl ?_
        refine z_getI (v := (J 50 9) - 1) rfl rfl (zU_e) ?_
        refine z_iret rfl rfl ?_
        refine ⟨?_, ?_⟩
        · first | rfl | exact congrArg (fun v => some (zi v)) (by omega) | (exfalso; omega)
        · exfalso
          omega
      · have hxhq2 : J 57 (J 29 5) = 3 := hxhq2
        refine z_aload rfl rfl ?_
        refine z_getR (r := 54) rfl rfl (hRr _ rm_50_5 (by decide)) ?_
        refine z_iload rfl rfl ?_
        refine z_iload rfl rfl ?_
        refine z_iast (e := J 60 (J 29 5)) rfl rfl (by decide) (by omega) rfl ?_
        refine z_goto rfl ?_
        refine z_vret rfl rfl ?_
        show zW _ _ _ _ _ _ _ _ _ _
        refine z_aload rfl rfl ?_
        refine z_dup rfl rfl ?_
        refine z_getI (v := J 29 5) rfl rfl ((zU_n (by decide)).trans ((zU_n (by decide)).trans (c1.symm))) ?_
        refine z_pushI (z := 1) rfl rfl ?_
        refine z_iadd (e := (J 29 5) + 1) rfl rfl ?_
        refine z_putI (y := 8) rfl rfl rfl ?_
        refine z_aload rfl rfl ?_
        refine z_dup rfl rfl ?_
        refine z_getI (v := J 50 9) rfl rfl ((zU_x (by decide)).trans ((zU_n (by decide)).trans ((zU_n (by decide)).trans (rfl)))) ?_
        refine z_pushI (z := 1) rfl rfl ?_
        refine z_isub (e := (J 50 9) - 1) rfl rfl ?_
        refine z_putI (y := 9) rfl rfl rfl ?_
        refine z_aload rfl rfl ?_
        refine z_getI (v := (J 50 9) - 1) rfl rfl (zU_e) ?_
        refine z_iret rfl rfl ?_
        refine ⟨?_, ?_⟩
        · first | rfl | exact congrArg (fun v => some (zi v)) (by omega) | (exfalso; omega)
        · exfalso
          omega
      · have hxhq2 : J 57 (J 29 5) = 4 := hxhq2
        refine z_aload rfl rfl ?_
        refine z_getR (r := 55) rfl rfl (hRr _ rm_50_6 (by decide)) ?_
        refine z_iload rfl rfl ?_
        refine z_iload rfl rfl ?_
        refine z_iast (e := J 60 (J 29 5)) rfl rfl (by decide) (by omega) rfl ?_
        refine z_goto rfl ?_
        refine z_vret rfl rfl ?_
        show zW _ _ _ _ _ _ _ _ _ _
        refine z_aload rfl rfl ?_
        refine z_dup rfl rfl ?_
        refine z_getI (v := J 29 5) rfl rfl ((zU_n (by decide)).trans ((zU_n (by decide)).trans (c1.symm))) ?_
        refine z_pushI (z := 1) rfl rfl ?_
        refine z_iadd (e := (J 29 5) + 1) rfl rfl ?_
        refine z_putI (y := 8) rfl rfl rfl ?_
        refine z_aload rfl rfl ?_
        refine z_dup rfl rfl ?_
        refine z_getI (v := J 50 9) rfl rfl ((zU_x (by decide)).trans ((zU_n (by decide)).trans ((zU_n (by decide)).trans (rfl)))) ?_
        refine z_pushI (z := 1) rfl rfl ?_
        refine z_isub (e := (J 50 9) - 1) rfl rfl ?_
        refine z_putI (y := 9) rfl rfl rfl ?_
        refine z_aload rfl rfl ?_
        refine z_getI (v := (J 50 9) - 1) rfl rfl (zU_e) ?_
        refine z_iret rfl rfl ?_
        refine ⟨?_, ?_⟩
        · first | rfl | exact congrArg (fun v => some (zi v)) (by omega) | (exfalso; omega)
        · exfalso
          omega
    · have hq2 : ∀ q ∈ [((0 : Int), 36), ((1 : Int), 46), ((2 : Int), 56), ((3 : Int), 66), ((4 : Int), 76)], ¬ J 57 (J 29 5) = q.1 := hq2
      have hq2_0 : ¬ J 57 (J 29 5) = 0 := hq2 (0, 36) (by simp)
      have hq2_1 : ¬ J 57 (J 29 5) = 1 := hq2 (1, 46) (by simp)
      have hq2_2 : ¬ J 57 (J 29 5) = 2 := hq2 (2, 56) (by simp)
      have hq2_3 : ¬ J 57 (J 29 5) = 3 := hq2 (3, 66) (by simp)
      have hq2_4 : ¬ J 57 (J 29 5) = 4 := hq2 (4, 76) (by simp)
      refine z_aload rfl rfl ?_
      refine z_getR (r := 56) rfl rfl (hRr _ rm_50_7 (by decide)) ?_
      refine z_iload rfl rfl ?_
      refine z_pushI (z := 5) rfl rfl ?_
      refine z_isub (e := (J 57 (J 29 5)) - 5) rfl rfl ?_
      refine z_iload rfl rfl ?_
      refine z_iast (e := J 60 (J 29 5)) rfl rfl (by decide) (by omega) rfl ?_
      refine z_vret rfl rfl ?_
      show zW _ _ _ _ _ _ _ _ _ _
      refine z_aload rfl rfl ?_
      refine z_dup rfl rfl ?_
      refine z_getI (v := J 29 5) rfl rfl ((zU_n (by decide)).trans ((zU_n (by decide)).trans (c1.symm))) ?_
      refine z_pushI (z := 1) rfl rfl ?_
      refine z_iadd (e := (J 29 5) + 1) rfl rfl ?_
      refine z_putI (y := 8) rfl rfl rfl ?_
      refine z_aload rfl rfl ?_
      refine z_dup rfl rfl ?_
      refine z_getI (v := J 50 9) rfl rfl ((zU_x (by decide)).trans ((zU_n (by decide)).trans ((zU_n (by decide)).trans (rfl)))) ?_
      refine z_pushI (z := 1) rfl rfl ?_
      refine z_isub (e := (J 50 9) - 1) rfl rfl ?_
      refine z_putI (y := 9) rfl rfl rfl ?_
      refine z_aload rfl rfl ?_
      refine z_getI (v := (J 50 9) - 1) rfl rfl (zU_e) ?_
      refine z_iret rfl rfl ?_
      refine ⟨?_, ?_⟩
      · first | rfl | exact congrArg (fun v => some (zi v)) (by omega) | (exfalso; omega)
      · exfalso
        omega
  · refine z_iload rfl rfl ?_
    refine z_pushI (z := 14) rfl rfl ?_
    refine z_icmp_lt rfl (by omega) (by decide) (fun h2 => ?_) (fun h2 => ?_)
    · refine z_iload rfl rfl ?_
      refine z_pushI (z := 5) rfl rfl ?_
      refine z_icmp_ge rfl (by omega) (by decide) (fun h3 => ?_) (fun h3 => ?_)
      · refine z_iload rfl rfl ?_
        refine z_if_ne rfl (by omega) (fun h4 => ?_) (fun h4 => ?_)
        · refine z_pushI (z := (-1)) rfl rfl ?_
          refine z_iret rfl rfl ?_
          show zW _ _ _ _ _ _ _ _ _ _
          refine z_istore rfl rfl ?_
          refine z_iload rfl rfl ?_
          refine z_if_ltT rfl (by decide) (by decide) ?_
          refine z_vret rfl rfl ?_
          show zW _ _ _ _ _ _ _ _ _ _
          refine z_aload rfl rfl ?_
          refine z_dup rfl rfl ?_
          refine z_getI (v := J 29 5) rfl rfl (rfl) ?_
          refine z_pushI (z := 1) rfl rfl ?_
          refine z_iadd (e := (J 29 5) + 1) rfl rfl ?_
          refine z_putI (y := 5) rfl rfl rfl ?_
          refine z_pushI (z := 1) rfl rfl ?_
          refine z_bret rfl rfl (by decide) ?_
          show zW _ _ _ _ _ _ _ _ _ _
          refine z_if_eqF rfl (by decide) (by decide) ?_
          refine z_aload rfl rfl ?_
          refine z_getR (r := 29) rfl rfl (hR _ rm_0_9) ?_
          refine z_getI (v := J 29 6) rfl rfl ((zU_x (by decide)).trans (rfl)) ?_
          refine z_aload rfl rfl ?_
          refine z_getR (r := 29) rfl rfl (hR _ rm_0_9) ?_
          refine z_getI (v := (J 29 5) + 1) rfl rfl (zU_e) ?_
          refine z_isub (e := (J 29 6) - ((J 29 5) + 1)) rfl rfl ?_
          refine z_goto rfl ?_
          refine z_iret rfl rfl ?_
          refine ⟨_, rfl, ?_⟩
          show zW _ _ _ _ [some (.ref 50)] _ _ _ _ _
          refine z_aload rfl rfl ?_
          refine z_getI (v := J 50 9) rfl rfl ((zU_n (by decide)).trans (rfl)) ?_
          refine z_if_neT rfl (by omega) (by omega) ?_
          refine z_aload rfl rfl ?_
          refine z_aload rfl rfl ?_
          refine z_getR (r := 57) rfl rfl (hRr _ rm_50_10 (by decide)) ?_
          refine z_aload rfl rfl ?_
          refine z_getI (v := J 29 5) rfl rfl ((zU_n (by decide)).trans (c1.symm)) ?_
          refine z_iald (v := J 57 (J 29 5)) rfl rfl (by decide) (by omega) ((zU_n (by decide)).trans (rfl)) ?_
          refine z_aload rfl rfl ?_
          refine z_getR (r := 58) rfl rfl (hRr _ rm_50_11 (by decide)) ?_
          refine z_aload rfl rfl ?_
          refine z_getI (v := J 29 5) rfl rfl ((zU_n (by decide)).trans (c1.symm)) ?_
          refine z_iald (v := J 58 (J 29 5)) rfl rfl (by decide) (by omega) ((zU_n (by decide)).trans (rfl)) ?_
          refine z_aload rfl rfl ?_
          refine z_getR (r := 60) rfl rfl (hRr _ rm_50_13 (by decide)) ?_
          refine z_aload rfl rfl ?_
          refine z_getI (v := J 29 5) rfl rfl ((zU_n (by decide)).trans (c1.symm)) ?_
          refine z_iald (v := J 60 (J 29 5)) rfl rfl (by decide) (by omega) ((zU_n (by decide)).trans (rfl)) ?_
          refine z_callVi (As := [_, _, _]) (le := [some _, some _, some _, some _]) rfl rfl rfl (Nat.le_of_ble_eq_true rfl) (Nat.le_of_ble_eq_true rfl) rfl ?_
          refine z_iload rfl rfl ?_
          refine z_sw (T := [((0 : Int), 36), ((1 : Int), 46), ((2 : Int), 56), ((3 : Int), 66), ((4 : Int), 76)]) rfl (by omega) rfl (fun q hq5 hxhq5 => ?_) (fun hq5 => ?_)
          · simp only [List.mem_cons, List.not_mem_nil, or_false] at hq5
            rcases hq5 with rfl | rfl | rfl | rfl | rfl
            · have hxhq5 : J 57 (J 29 5) = 0 := hxhq5
              refine z_aload rfl rfl ?_
              refine z_getR (r := 51) rfl rfl (hRr _ rm_50_2 (by decide)) ?_
              refine z_iload rfl rfl ?_
              refine z_iload rfl rfl ?_
              refine z_iast (e := J 60 (J 29 5)) rfl rfl (by decide) (by omega) rfl ?_
              refine z_goto rfl ?_
              refine z_vret rfl rfl ?_
              show zW _ _ _ _ _ _ _ _ _ _
              refine z_aload rfl rfl ?_
              refine z_dup rfl rfl ?_
              refine z_getI (v := J 29 5) rfl rfl ((zU_n (by decide)).trans ((zU_n (by decide)).trans (c1.symm))) ?_
              refine z_pushI (z := 1) rfl rfl ?_
              refine z_iadd (e := (J 29 5) + 1) rfl rfl ?_
              refine z_putI (y := 8) rfl rfl rfl ?_
              refine z_aload rfl rfl ?_
              refine z_dup rfl rfl ?_
              refine z_getI (v := J 50 9) rfl rfl ((zU_x (by decide)).trans ((zU_n (by decide)).trans ((zU_n (by decide)).trans (rfl)))) ?_
              refine z_pushI (z := 1) rfl rfl ?_
              refine z_isub (e := (J 50 9) - 1) rfl rfl ?_
              refine z_putI (y := 9) rfl rfl rfl ?_
              refine z_aload rfl rfl ?_
              refine z_getI (v := (J 50 9) - 1) rfl rfl (zU_e) ?_
              refine z_iret rfl rfl ?_
              refine ⟨?_, ?_⟩
              · first | rfl | exact congrArg (fun v => some (zi v)) (by omega) | (exfalso; omega)
              · exfalso
                omega
            · have hxhq5 : J 57 (J 29 5) = 1 := hxhq5
              refine z_aload rfl rfl ?_
              refine z_getR (r := 52) rfl rfl (hRr _ rm_50_3 (by decide)) ?_
              refine z_iload rfl rfl ?_
              refine z_iload rfl rfl ?_
              refine z_iast (e := J 60 (J 29 5)) rfl rfl (by decide) (by omega) rfl ?_
              refine z_goto rfl ?_
              refine z_vret rfl rfl ?_
              show zW _ _ _ _ _ _ _ _ _ _
              refine z_aload rfl rfl ?_
              refine z_dup rfl rfl ?_
              refine z_getI (v := J 29 5) rfl rfl ((zU_n (by decide)).trans ((zU_n (by decide)).trans (c1.symm))) ?_
              refine z_pushI (z := 1) rfl rfl ?_
              refine z_iadd (e := (J 29 5) + 1) rfl rfl ?_
              refine z_putI (y := 8) rfl rfl rfl ?_
              refine z_aload rfl rfl ?_
              refine z_dup rfl rfl ?_
              refine z_getI (v := J 50 9) rfl rfl ((zU_x (by decide)).trans ((zU_n (by decide)).trans ((zU_n (by decide)).trans (rfl)))) ?_
              refine z_pushI (z := 1) rfl rfl ?_
              refine z_isub (e := (J 50 9) - 1) rfl rfl ?_
              refine z_putI (y := 9) rfl rfl rfl ?_
              refine z_aload rfl rfl ?_
              refine z_getI (v := (J 50 9) - 1) rfl rfl (zU_e) ?_
              refine z_iret rfl rfl ?_
              refine ⟨?_, ?_⟩
              · first | rfl | exact congrArg (fun v => some (zi v)) (by omega) | (exfalso; omega)
              · exfalso
                omega
            · have hxhq5 : J 57 (J 29 5) = 2 := hxhq5
              refine z_aload rfl rfl ?_
              refine z_getR (r := 53) rfl rfl (hRr _ rm_50_4 (by decide)) ?_
              refine z_iload rfl rfl ?_
              refine z_iload rfl rfl ?_
              refine z_iast (e := J 60 (J 29 5)) rfl rfl (by decide) (by omega) rfl ?_
              refine z_goto rfl ?_
              refine z_vret rfl rfl ?_
              show zW _ _ _ _ _ _ _ _ _ _
              refine z_aload rfl rfl ?_
              refine z_dup rfl rfl ?_
              refine z_getI (v := J 29 5) rfl rfl ((zU_n (by decide)).trans ((zU_n (by decide)).trans (c1.symm))) ?_
              refine z_pushI (z := 1) rfl rfl ?_
              refine z_iadd (e := (J 29 5) + 1) rfl rfl ?_
              refine z_putI (y := 8) rfl rfl rfl ?_
              refine z_aload rfl rfl ?_
              refine z_dup rfl rfl ?_
              refine z_getI (v := J 50 9) rfl rfl ((zU_x (by decide)).trans ((zU_n (by decide)).trans ((zU_n (by decide)).trans (rfl)))) ?_
              refine z_pushI (z := 1) rfl rfl ?_
              refine z_isub (e := (J 50 9) - 1) rfl rfl ?_
              refine z_putI (y := 9) rfl rfl rfl ?_
              refine z_aload rfl rfl ?_
              refine z_getI (v := (J 50 9) - 1) rfl rfl (zU_e) ?_
              refine z_iret rfl rfl ?_
              refine ⟨?_, ?_⟩
              · first | rfl | exact congrArg (fun v => some (zi v)) (by omega) | (exfalso; omega)
              · exfalso
                omega
            · have hxhq5 : J 57 (J 29 5) = 3 := hxhq5
              refine z_aload rfl rfl ?_
              refine z_getR (r := 54) rfl rfl (hRr _ rm_50_5 (by decide)) ?_
              refine z_iload rfl rfl ?_
              refine z_iload rfl rfl ?_
              refine z_iast (e := J 60 (J 29 5)) rfl rfl (by decide) (by omega) rfl ?_
              refine z_goto rfl ?_
              refine z_vret rfl rfl ?_
              show zW _ _ _ _ _ _ _ _ _ _
              refine z_aload rfl rfl ?_
              refine z_dup rfl rfl ?_
              refine z_getI (v := J 29 5) rfl rfl ((zU_n (by decide)).trans ((zU_n (by decide)).trans (c1.symm))) ?_
              refine z_pushI (z := 1) rfl rfl ?_
              refine z_iadd (e := (J 29 5) + 1) rfl rfl ?_
              refine z_putI (y := 8) rfl rfl rfl ?_
              refine z_aload rfl rfl ?_
              refine z_dup rfl rfl ?_
              refine z_getI (v := J 50 9) rfl rfl ((zU_x (by decide)).trans ((zU_n (by decide)).trans ((zU_n (by decide)).trans (rfl)))) ?_
              refine z_pushI (z := 1) rfl rfl ?_
              refine z_isub (e := (J 50 9) - 1) rfl rfl ?_
              refine z_putI (y := 9) rfl rfl rfl ?_
              refine z_aload rfl rfl ?_
              refine z_getI (v := (J 50 9) - 1) rfl rfl (zU_e) ?_
              refine z_iret rfl rfl ?_
              refine ⟨?_, ?_⟩
              · first | rfl | exact congrArg (fun v => some (zi v)) (by omega) | (exfalso; omega)
              · exfalso
                omega
            · have hxhq5 : J 57 (J 29 5) = 4 := hxhq5
              refine z_aload rfl rfl ?_
              refine z_getR (r := 55) rfl rfl (hRr _ rm_50_6 (by decide)) ?_
              refine z_iload rfl rfl ?_
              refine z_iload rfl rfl ?_
              refine z_iast (e := J 60 (J 29 5)) rfl rfl (by decide) (by omega) rfl ?_
              refine z_goto rfl ?_
              refine z_vret rfl rfl ?_
              show zW _ _ _ _ _ _ _ _ _ _
              refine z_aload rfl rfl ?_
              refine z_dup rfl rfl ?_
              refine z_getI (v := J 29 5) rfl rfl ((zU_n (by decide)).trans ((zU_n (by decide)).trans (c1.symm))) ?_
              refine z_pushI (z := 1) rfl rfl ?_
              refine z_iadd (e := (J 29 5) + 1) rfl rfl ?_
              refine z_putI (y := 8) rfl rfl rfl ?_
              refine z_aload rfl rfl ?_
              refine z_dup rfl rfl ?_
              refine z_getI (v := J 50 9) rfl rfl ((zU_x (by decide)).trans ((zU_n (by decide)).trans ((zU_n (by decide)).trans (rfl)))) ?_
              refine z_pushI (z := 1) rfl rfl ?_
              refine z_isub (e := (J 50 9) - 1) rfl rfl ?_
              refine z_putI (y := 9) rfl rfl rfl ?_
              refine z_aload rfl rfl ?_
              refine z_getI (v := (J 50 9) - 1) rfl rfl (zU_e) ?_
              refine z_iret rfl rfl ?_
              refine ⟨?_, ?_⟩
              · first | rfl | exact congrArg (fun v => some (zi v)) (by omega) | (exfalso; omega)
              · exfalso
                omega
          · have hq5 : ∀ q ∈ [((0 : Int), 36), ((1 : Int), 46), ((2 : Int), 56), ((3 : Int), 66), ((4 : Int), 76)], ¬ J 57 (J 29 5) = q.1 := hq5
            have hq5_0 : ¬ J 57 (J 29 5) = 0 := hq5 (0, 36) (by simp)
            have hq5_1 : ¬ J 57 (J 29 5) = 1 := hq5 (1, 46) (by simp)
            have hq5_2 : ¬ J 57 (J 29 5) = 2 := hq5 (2, 56) (by simp)
            have hq5_3 : ¬ J 57 (J 29 5) = 3 := hq5 (3, 66) (by simp)
            have hq5_4 : ¬ J 57 (J 29 5) = 4 := hq5 (4, 76) (by simp)
            refine z_aload rfl rfl ?_
            refine z_getR (r := 56) rfl rfl (hRr _ rm_50_7 (by decide)) ?_
            refine z_iload rfl rfl ?_
            refine z_pushI (z := 5) rfl rfl ?_
            refine z_isub (e := (J 57 (J 29 5)) - 5) rfl rfl ?_
            refine z_iload rfl rfl ?_
            refine z_iast (e := J 60 (J 29 5)) rfl rfl (by decide) (by omega) rfl ?_
            refine z_vret rfl rfl ?_
            show zW _ _ _ _ _ _ _ _ _ _
            refine z_aload rfl rfl ?_
            refine z_dup rfl rfl ?_
            refine z_getI (v := J 29 5) rfl rfl ((zU_n (by decide)).trans ((zU_n (by decide)).trans (c1.symm))) ?_
            refine z_pushI (z := 1) rfl rfl ?_
            refine z_iadd (e := (J 29 5) + 1) rfl rfl ?_
            refine z_putI (y := 8) rfl rfl rfl ?_
            refine z_aload rfl rfl ?_
            refine z_dup rfl rfl ?_
            refine z_getI (v := J 50 9) rfl rfl ((zU_x (by decide)).trans ((zU_n (by decide)).trans ((zU_n (by decide)).trans (rfl)))) ?_
            refine z_pushI (z := 1) rfl rfl ?_
            refine z_isub (e := (J 50 9) - 1) rfl rfl ?_
            refine z_putI (y := 9) rfl rfl rfl ?_
            refine z_aload rfl rfl ?_
            refine z_getI (v := (J 50 9) - 1) rfl rfl (zU_e) ?_
            refine z_iret rfl rfl ?_
            refine ⟨?_, ?_⟩
            · first | rfl | exact congrArg (fun v => some (zi v)) (by omega) | (exfalso; omega)
            · exfalso
              omega
        · refine z_pushI (z := 40) rfl rfl ?_
          refine z_iload rfl rfl ?_
          refine z_iadd (e := 40 + (J 31 (J 29 5))) rfl rfl ?_
          refine z_goto rfl ?_
          refine z_iret rfl rfl ?_
          show zW _ _ _ _ _ _ _ _ _ _
          refine z_istore rfl rfl ?_
          refine z_iload rfl rfl ?_
          refine z_if_lt rfl (by omega) (fun h5 => ?_) (fun h5 => ?_)
          · refine z_vret rfl rfl ?_
            show zW _ _ _ _ _ _ _ _ _ _
            refine z_aload rfl rfl ?_
            refine z_dup rfl rfl ?_
            refine z_getI (v := J 29 5) rfl rfl (rfl) ?_
            refine z_pushI (z := 1) rfl rfl ?_
            refine z_iadd (e := (J 29 5) + 1) rfl rfl ?_
            refine z_putI (y := 5) rfl rfl rfl ?_
            refine z_pushI (z := 1) rfl rfl ?_
            refine z_bret rfl rfl (by decide) ?_
            show zW _ _ _ _ _ _ _ _ _ _
            refine z_if_eqF rfl (by decide) (by decide) ?_
            refine z_aload rfl rfl ?_
            refine z_getR (r := 29) rfl rfl (hR _ rm_0_9) ?_
            refine z_getI (v := J 29 6) rfl rfl ((zU_x (by decide)).trans (rfl)) ?_
            refine z_aload rfl rfl ?_
            refine z_getR (r := 29) rfl rfl (hR _ rm_0_9) ?_
            refine z_getI (v := (J 29 5) + 1) rfl rfl (zU_e) ?_
            refine z_isub (e := (J 29 6) - ((J 29 5) + 1)) rfl rfl ?_
            refine z_goto rfl ?_
            refine z_iret rfl rfl ?_
            refine ⟨_, rfl, ?_⟩
            show zW _ _ _ _ [some (.ref 50)] _ _ _ _ _
            refine z_aload rfl rfl ?_
            refine z_getI (v := J 50 9) rfl rfl ((zU_n (by decide)).trans (rfl)) ?_
            refine z_if_neT rfl (by omega) (by omega) ?_
            refine z_aload rfl rfl ?_
            refine z_aload rfl rfl ?_
            refine z_getR (r := 57) rfl rfl (hRr _ rm_50_10 (by decide)) ?_
            refine z_aload rfl rfl ?_
            refine z_getI (v := J 29 5) rfl rfl ((zU_n (by decide)).trans (c1.symm)) ?_
            refine z_iald (v := J 57 (J 29 5)) rfl rfl (by decide) (by omega) ((zU_n (by decide)).trans (rfl)) ?_
            refine z_aload rfl rfl ?_
            refine z_getR (r := 58) rfl rfl (hRr _ rm_50_11 (by decide)) ?_
            refine z_aload rfl rfl ?_
            refine z_getI (v := J 29 5) rfl rfl ((zU_n (by decide)).trans (c1.symm)) ?_
            refine z_iald (v := J 58 (J 29 5)) rfl rfl (by decide) (by omega) ((zU_n (by decide)).trans (rfl)) ?_
            refine z_aload rfl rfl ?_
            refine z_getR (r := 60) rfl rfl (hRr _ rm_50_13 (by decide)) ?_
            refine z_aload rfl rfl ?_
            refine z_getI (v := J 29 5) rfl rfl ((zU_n (by decide)).trans (c1.symm)) ?_
            refine z_iald (v := J 60 (J 29 5)) rfl rfl (by decide) (by omega) ((zU_n (by decide)).trans (rfl)) ?_
            refine z_callVi (As := [_, _, _]) (le := [some _, some _, some _, some _]) rfl rfl rfl (Nat.le_of_ble_eq_true rfl) (Nat.le_of_ble_eq_true rfl) rfl ?_
            refine z_iload rfl rfl ?_
            refine z_sw (T := [((0 : Int), 36), ((1 : Int), 46), ((2 : Int), 56), ((3 : Int), 66), ((4 : Int), 76)]) rfl (by omega) rfl (fun q hq6 hxhq6 => ?_) (fun hq6 => ?_)
            · simp only [List.mem_cons, List.not_mem_nil, or_false] at hq6
              rcases hq6 with rfl | rfl | rfl | rfl | rfl
              · have hxhq6 : J 57 (J 29 5) = 0 := hxhq6
                refine z_aload rfl rfl ?_
                refine z_getR (r := 51) rfl rfl (hRr _ rm_50_2 (by decide)) ?_
                refine z_iload rfl rfl ?_
                refine z_iload rfl rfl ?_
                refine z_iast (e := J 60 (J 29 5)) rfl rfl (by decide) (by omega) rfl ?_
                refine z_goto rfl ?_
                refine z_vret rfl rfl ?_
                show zW _ _ _ _ _ _ _ _ _ _
                refine z_aload rfl rfl ?_
                refine z_dup rfl rfl ?_
                refine z_getI (v := J 29 5) rfl rfl ((zU_n (by decide)).trans ((zU_n (by decide)).trans (c1.symm))) ?_
                refine z_pushI (z := 1) rfl rfl ?_
                refine z_iadd (e := (J 29 5) + 1) rfl rfl ?_
                refine z_putI (y := 8) rfl rfl rfl ?_
                refine z_aload rfl rfl ?_
                refine z_dup rfl rfl ?_
                refine z_getI (v := J 50 9) rfl rfl ((zU_x (by decide)).trans ((zU_n (by decide)).trans ((zU_n (by decide)).trans (rfl)))) ?_
                refine z_pushI (z := 1) rfl rfl ?_
                refine z_isub (e := (J 50 9) - 1) rfl rfl ?_
                refine z_putI (y := 9) rfl rfl rfl ?_
                refine z_aload rfl rfl ?_
                refine z_getI (v := (J 50 9) - 1) rfl rfl (zU_e) ?_
                refine z_iret rfl rfl ?_
                refine ⟨?_, ?_⟩
                · first | rfl | exact congrArg (fun v => some (zi v)) (by omega) | (exfalso; omega)
                · exfalso
                  omega
              · have hxhq6 : J 57 (J 29 5) = 1 := hxhq6
                refine z_aload rfl rfl ?_
                refine z_getR (r := 52) rfl rfl (hRr _ rm_50_3 (by decide)) ?_
                refine z_iload rfl rfl ?_
                refine z_iload rfl rfl ?_
                refine z_iast (e := J 60 (J 29 5)) rfl rfl (by decide) (by omega) rfl ?_
                refine z_goto rfl ?_
                refine z_vret rfl rfl ?_
                show zW _ _ _ _ _ _ _ _ _ _
                refine z_aload rfl rfl ?_
                refine z_dup rfl rfl ?_
                refine z_getI (v := J 29 5) rfl rfl ((zU_n (by decide)).trans ((zU_n (by decide)).trans (c1.symm))) ?_
                refine z_pushI (z := 1) rfl rfl ?_
                refine z_iadd (e := (J 29 5) + 1) rfl rfl ?_
                refine z_putI (y := 8) rfl rfl rfl ?_
                refine z_aload rfl rfl ?_
                refine z_dup rfl rfl ?_
                refine z_getI (v := J 50 9) rfl rfl ((zU_x (by decide)).trans ((zU_n (by decide)).trans ((zU_n (by decide)).trans (rfl)))) ?_
                refine z_pushI (z := 1) rfl rfl ?_
                refine z_isub (e := (J 50 9) - 1) rfl rfl ?_
                refine z_putI (y := 9) rfl rfl rfl ?_
                refine z_aload rfl rfl ?_
                refine z_getI (v := (J 50 9) - 1) rfl rfl (zU_e) ?_
                refine z_iret rfl rfl ?_
                refine ⟨?_, ?_⟩
                · first | rfl | exact congrArg (fun v => some (zi v)) (by omega) | (exfalso; omega)
                · exfalso
                  omega
              · have hxhq6 : J 57 (J 29 5) = 2 := hxhq6
                refine z_aload rfl rfl ?_
                refine z_getR (r := 53) rfl rfl (hRr _ rm_50_4 (by decide)) ?_
                refine z_iload rfl rfl ?_
                refine z_iload rfl rfl ?_
                refine z_iast (e := J 60 (J 29 5)) rfl rfl (by decide) (by omega) rfl ?_
                refine z_goto rfl ?_
                refine z_vret rfl rfl ?_
                show zW _ _ _ _ _ _ _ _ _ _
                refine z_aload rfl rfl ?_
                refine z_dup rfl rfl ?_
                refine z_getI (v := J 29 5) rfl rfl ((zU_n (by decide)).trans ((zU_n (by decide)).trans (c1.symm))) ?_
                refine z_pushI (z := 1) rfl rfl ?_
                refine z_iadd (e := (J 29 5) + 1) rfl rfl ?_
                refine z_putI (y := 8) rfl rfl rfl ?_
                refine z_aload rfl rfl ?_
                refine z_dup rfl rfl ?_
                refine z_getI (v := J 50 9) rfl rfl ((zU_x (by decide)).trans ((zU_n (by decide)).trans ((zU_n (by decide)).trans (rfl)))) ?_
                refine z_pushI (z := 1) rfl rfl ?_
                refine z_isub (e := (J 50 9) - 1) rfl rfl ?_
                refine z_putI (y := 9) rfl rfl rfl ?_
                refine z_aload rfl rfl ?_
                refine z_getI (v := (J 50 9) - 1) rfl rfl (zU_e) ?_
                refine z_iret rfl rfl ?_
                refine ⟨?_, ?_⟩
                · first | rfl | exact congrArg (fun v => some (zi v)) (by omega) | (exfalso; omega)
                · exfalso
                  omega
              · have hxhq6 : J 57 (J 29 5) = 3 := hxhq6
                refine z_aload rfl rfl ?_
                refine z_getR (r := 54) rfl rfl (hRr _ rm_50_5 (by decide)) ?_
                refine z_iload rfl rfl ?_
                refine z_iload rfl rfl ?_
                refine z_iast (e := J 60 (J 29 5)) rfl rfl (by decide) (by omega) rfl ?_
                refine z_goto rfl ?_
                refine z_vret rfl rfl ?_
                show zW _ _ _ _ _ _ _ _ _ _
                refine z_aload rfl rfl ?_
                refine z_dup rfl rfl ?_
                refine z_getI (v := J 29 5) rfl rfl ((zU_n (by decide)).trans ((zU_n (by decide)).trans (c1.symm))) ?_
                refine z_pushI (z := 1) rfl rfl ?_
                refine z_iadd (e := (J 29 5) + 1) rfl rfl ?_
                refine z_putI (y := 8) rfl rfl rfl ?_
                refine z_aload rfl rfl ?_
                refine z_dup rfl rfl ?_
                refine z_getI (v := J 50 9) rfl rfl ((zU_x (by decide)).trans ((zU_n (by decide)).trans ((zU_n (by decide)).trans (rfl)))) ?_
                refine z_pushI (z := 1) rfl rfl ?_
                refine z_isub (e := (J 50 9) - 1) rfl rfl ?_
                refine z_putI (y := 9) rfl rfl rfl ?_
                refine z_aload rfl rfl ?_
                refine z_getI (v := (J 50 9) - 1) rfl rfl (zU_e) ?_
                refine z_iret rfl rfl ?_
                refine ⟨?_, ?_⟩
                · first | rfl | exact congrArg (fun v => some (zi v)) (by omega) | (exfalso; omega)
                · exfalso
                  omega
              · have hxhq6 : J 57 (J 29 5) = 4 := hxhq6
                refine z_aload rfl rfl ?_
                refine z_getR (r := 55) rfl rfl (hRr _ rm_50_6 (by decide)) ?_
                refine z_iload rfl rfl ?_
                refine z_iload rfl rfl ?_
                refine z_iast (e := J 60 (J 29 5)) rfl rfl (by decide) (by omega) rfl ?_
                refine z_goto rfl ?_
                refine z_vret rfl rfl ?_
                show zW _ _ _ _ _ _ _ _ _ _
                refine z_aload rfl rfl ?_
                refine z_dup rfl rfl ?_
                refine z_getI (v := J 29 5) rfl rfl ((zU_n (by decide)).trans ((zU_n (by decide)).trans (c1.symm))) ?_
                refine z_pushI (z := 1) rfl rfl ?_
                refine z_iadd (e := (J 29 5) + 1) rfl rfl ?_
                refine z_putI (y := 8) rfl rfl rfl ?_
                refine z_aload rfl rfl ?_
                refine z_dup rfl rfl ?_
                refine z_getI (v := J 50 9) rfl rfl ((zU_x (by decide)).trans ((zU_n (by decide)).trans ((zU_n (by decide)).trans (rfl)))) ?_
                refine z_pushI (z := 1) rfl rfl ?_
                refine z_isub (e := (J 50 9) - 1) rfl rfl ?_
                refine z_putI (y := 9) rfl rfl rfl ?_
                refine z_aload rfl rfl ?_
                refine z_getI (v := (J 50 9) - 1) rfl rfl (zU_e) ?_
                refine z_iret rfl rfl ?_
                refine ⟨?_, ?_⟩
                · first | rfl | exact congrArg (fun v => some (zi v)) (by omega) | (exfalso; omega)
                · exfalso
                  omega
            · have hq6 : ∀ q ∈ [((0 : Int), 36), ((1 : Int), 46), ((2 : Int), 56), ((3 : Int), 66), ((4 : Int), 76)], ¬ J 57 (J 29 5) = q.1 := hq6
              have hq6_0 : ¬ J 57 (J 29 5) = 0 := hq6 (0, 36) (by simp)
              have hq6_1 : ¬ J 57 (J 29 5) = 1 := hq6 (1, 46) (by simp)
              have hq6_2 : ¬ J 57 (J 29 5) = 2 := hq6 (2, 56) (by simp)
              have hq6_3 : ¬ J 57 (J 29 5) = 3 := hq6 (3, 66) (by simp)
              have hq6_4 : ¬ J 57 (J 29 5) = 4 := hq6 (4, 76) (by simp)
              refine z_aload rfl rfl ?_
              refine z_getR (r := 56) rfl rfl (hRr _ rm_50_7 (by decide)) ?_
              refine z_iload rfl rfl ?_
              refine z_pushI (z := 5) rfl rfl ?_
              refine z_isub (e := (J 57 (J 29 5)) - 5) rfl rfl ?_
              refine z_iload rfl rfl ?_
              refine z_iast (e := J 60 (J 29 5)) rfl rfl (by decide) (by omega) rfl ?_
              refine z_vret rfl rfl ?_
              show zW _ _ _ _ _ _ _ _ _ _
              refine z_aload rfl rfl ?_
              refine z_dup rfl rfl ?_
              refine z_getI (v := J 29 5) rfl rfl ((zU_n (by decide)).trans ((zU_n (by decide)).trans (c1.symm))) ?_
              refine z_pushI (z := 1) rfl rfl ?_
              refine z_iadd (e := (J 29 5) + 1) rfl rfl ?_
              refine z_putI (y := 8) rfl rfl rfl ?_
              refine z_aload rfl rfl ?_
              refine z_dup rfl rfl ?_
              refine z_getI (v := J 50 9) rfl rfl ((zU_x (by decide)).trans ((zU_n (by decide)).trans ((zU_n (by decide)).trans (rfl)))) ?_
              refine z_pushI (z := 1) rfl rfl ?_
              refine z_isub (e := (J 50 9) - 1) rfl rfl ?_
              refine z_putI (y := 9) rfl rfl rfl ?_
              refine z_aload rfl rfl ?_
              refine z_getI (v := (J 50 9) - 1) rfl rfl (zU_e) ?_
              refine z_iret rfl rfl ?_
              refine ⟨?_, ?_⟩
              · first | rfl | exact congrArg (fun v => some (zi v)) (by omega) | (exfalso; omega)
              · exfalso
                omega
          · refine z_aload rfl rfl ?_
            refine z_getR (r := 9) rfl rfl (hR _ rm_8_1) ?_
            refine z_iload rfl rfl ?_
            refine z_iload rfl rfl ?_
            refine z_iast (e := J 33 (J 29 5)) rfl rfl (by decide) (by omega) rfl ?_
            refine z_vret rfl rfl ?_
            show zW _ _ _ _ _ _ _ _ _ _
            refine z_aload rfl rfl ?_
            refine z_dup rfl rfl ?_
            refine z_getI (v := J 29 5) rfl rfl ((zU_n (by decide)).trans (rfl)) ?_
            refine z_pushI (z := 1) rfl rfl ?_
            refine z_iadd (e := (J 29 5) + 1) rfl rfl ?_
            refine z_putI (y := 5) rfl rfl rfl ?_
            refine z_pushI (z := 1) rfl rfl ?_
            refine z_bret rfl rfl (by decide) ?_
            show zW _ _ _ _ _ _ _ _ _ _
            refine z_if_eqF rfl (by decide) (by decide) ?_
            refine z_aload rfl rfl ?_
            refine z_getR (r := 29) rfl rfl (hR _ rm_0_9) ?_
            refine z_getI (v := J 29 6) rfl rfl ((zU_x (by decide)).trans ((zU_n (by decide)).trans (rfl))) ?_
            refine z_aload rfl rfl ?_
            refine z_getR (r := 29) rfl rfl (hR _ rm_0_9) ?_
            refine z_getI (v := (J 29 5) + 1) rfl rfl (zU_e) ?_
            refine z_isub (e := (J 29 6) - ((J 29 5) + 1)) rfl rfl ?_
            refine z_goto rfl ?_
            refine z_iret rfl rfl ?_
            refine ⟨_, rfl, ?_⟩
            show zW _ _ _ _ [some (.ref 50)] _ _ _ _ _
            refine z_aload rfl rfl ?_
            refine z_getI (v := J 50 9) rfl rfl ((zU_n (by decide)).trans ((zU_n (by decide)).trans (rfl))) ?_
            refine z_if_neT rfl (by omega) (by omega) ?_
            refine z_aload rfl rfl ?_
            refine z_aload rfl rfl ?_
            refine z_getR (r := 57) rfl rfl (hRr _ rm_50_10 (by decide)) ?_
            refine z_aload rfl rfl ?_
            refine z_getI (v := J 29 5) rfl rfl ((zU_n (by decide)).trans ((zU_n (by decide)).trans (c1.symm))) ?_
            refine z_iald (v := J 57 (J 29 5)) rfl rfl (by decide) (by omega) ((zU_n (by decide)).trans ((zU_n (by decide)).trans (rfl))) ?_
            refine z_aload rfl rfl ?_
            refine z_getR (r := 58) rfl rfl (hRr _ rm_50_11 (by decide)) ?_
            refine z_aload rfl rfl ?_
            refine z_getI (v := J 29 5) rfl rfl ((zU_n (by decide)).trans ((zU_n (by decide)).trans (c1.symm))) ?_
            refine z_iald (v := J 58 (J 29 5)) rfl rfl (by decide) (by omega) ((zU_n (by decide)).trans ((zU_n (by decide)).trans (rfl))) ?_
            refine z_aload rfl rfl ?_
            refine z_getR (r := 60) rfl rfl (hRr _ rm_50_13 (by decide)) ?_
            refine z_aload rfl rfl ?_
            refine z_getI (v := J 29 5) rfl rfl ((zU_n (by decide)).trans ((zU_n (by decide)).trans (c1.symm))) ?_
            refine z_iald (v := J 60 (J 29 5)) rfl rfl (by decide) (by omega) ((zU_n (by decide)).trans ((zU_n (by decide)).trans (rfl))) ?_
            refine z_callVi (As := [_, _, _]) (le := [some _, some _, some _, some _]) rfl rfl rfl (Nat.le_of_ble_eq_true rfl) (Nat.le_of_ble_eq_true rfl) rfl ?_
            refine z_iload rfl rfl ?_
            refine z_sw (T := [((0 : Int), 36), ((1 : Int), 46), ((2 : Int), 56), ((3 : Int), 66), ((4 : Int), 76)]) rfl (by omega) rfl (fun q hq6 hxhq6 => ?_) (fun hq6 => ?_)
            · simp only [List.mem_cons, List.not_mem_nil, or_false] at hq6
              rcases hq6 with rfl | rfl | rfl | rfl | rfl
              · have hxhq6 : J 57 (J 29 5) = 0 := hxhq6
                refine z_aload rfl rfl ?_
                refine z_getR (r := 51) rfl rfl (hRr _ rm_50_2 (by decide)) ?_
                refine z_iload rfl rfl ?_
                refine z_iload rfl rfl ?_
                refine z_iast (e := J 60 (J 29 5)) rfl rfl (by decide) (by omega) rfl ?_
                refine z_goto rfl ?_
                refine z_vret rfl rfl ?_
                show zW _ _ _ _ _ _ _ _ _ _
                refine z_aload rfl rfl ?_
                refine z_dup rfl rfl ?_
                refine z_getI (v := J 29 5) rfl rfl ((zU_n (by decide)).trans ((zU_n (by decide)).trans ((zU_n (by decide)).trans (c1.symm)))) ?_
                refine z_pushI (z := 1) rfl rfl ?_
                refine z_iadd (e := (J 29 5) + 1) rfl rfl ?_
                refine z_putI (y := 8) rfl rfl rfl ?_
                refine z_aload rfl rfl ?_
                refine z_dup rfl rfl ?_
                refine z_getI (v := J 50 9) rfl rfl ((zU_x (by decide)).trans ((zU_n (by decide)).trans ((zU_n (by decide)).trans ((zU_n (by decide)).trans (rfl))))) ?_
                refine z_pushI (z := 1) rfl rfl ?_
                refine z_isub (e := (J 50 9) - 1) rfl rfl ?_
                refine z_putI (y := 9) rfl rfl rfl ?_
                refine z_aload rfl rfl ?_
                refine z_getI (v := (J 50 9) - 1) rfl rfl (zU_e) ?_
                refine z_iret rfl rfl ?_
                refine ⟨?_, ?_⟩
                · first | rfl | exact congrArg (fun v => some (zi v)) (by omega) | (exfalso; omega)
                · have hs := (zK_x (a := 50) (x := 9) (v := (J 50 9) - 1) (zK_x (a := 50) (x := 8) (v := (J 29 5) + 1) (zK_u (a := 51) (x := J 58 (J 29 5)) (v := J 60 (J 29 5)) (zK_x (a := 29) (x := 5) (v := (J 29 5) + 1) (zK_u (a := 9) (x := 40 + (J 31 (J 29 5))) (v := J 33 (J 29 5)) (zK_r (k := (kL [] [(29, 5), (50, 8), (50, 9)])) (A := J))) rfl)) rfl) rfl)
                  have ev : J 60 (J 29 5) = J 33 (J 29 5) := by omega
                  have hY2 := RelY_k hs (by repeat' constructor) (fun p => by repeat' constructor) (by rw [ev]; exact RelY_p (p := J 30 (J 29 5)) (w := 0) hY (by omega) (by omega) (zFit_c hfit (by omega)) (by omega) rfl (by omega))
                  have hs2 := (zK_u (a := 50) (x := 9) (v := (J 50 9) - 1) (zK_u (a := 50) (x := 8) (v := (J 29 5) + 1) (zK_x (a := 51) (x := J 58 (J 29 5)) (v := J 60 (J 29 5)) (zK_u (a := 29) (x := 5) (v := (J 29 5) + 1) (zK_x (a := 9) (x := 40 + (J 31 (J 29 5))) (v := J 33 (J 29 5)) (zK_r (k := (kL [9, 51] [])) (A := J)) rfl)) rfl)))
                  have hC2 := RelC_k hs2 (by repeat' constructor) (fun p => by repeat' constructor) (RelC_redo hC (by omega))
                  have hk := (zK_x (a := 50) (x := 9) (v := (J 50 9) - 1) (zK_x (a := 50) (x := 8) (v := (J 29 5) + 1) (zK_x (a := 51) (x := J 58 (J 29 5)) (v := J 60 (J 29 5)) (zK_x (a := 29) (x := 5) (v := (J 29 5) + 1) (zK_x (a := 9) (x := 40 + (J 31 (J 29 5))) (v := J 33 (J 29 5)) (zK_r (k := (kL [9, 51] [(29, 5), (50, 8), (50, 9)])) (A := J)) rfl) rfl) rfl) rfl) rfl)
                  exact ⟨hR, hG, hY2, RelD_k hk (by repeat' constructor) (fun p => by repeat' constructor) hD, RelP_k hk (by repeat' constructor) (fun p => by repeat' constructor) hP, hC2, RelA_k hk (by repeat' constructor) (fun p => by repeat' constructor) hAc, RelS_k hk (zK_r (k := kM)) (fun x j a b => ⟨kL_38 (by decide) (by decide) x j a b, kM_38 x j a b⟩) (fun p => ⟨rfl, rfl, rfl⟩) rfl hS, RelT_k hk (by repeat' constructor) (fun p => by repeat' constructor) hTp, RelX_k hk (by repeat' constructor) (fun p => by repeat' constructor) hX, RelW_k hk ⟨rfl, rfl⟩ trivial hW⟩
              · have hxhq6 : J 57 (J 29 5) = 1 := hxhq6
                refine z_aload rfl rfl ?_
                refine z_getR (r := 52) rfl rfl (hRr _ rm_50_3 (by decide)) ?_
                refine z_iload rfl rfl ?_
                refine z_iload rfl rfl ?_
                refine z_iast (e := J 60 (J 29 5)) rfl rfl (by decide) (by omega) rfl ?_
                refine z_goto rfl ?_
                refine z_vret rfl rfl ?_
                show zW _ _ _ _ _ _ _ _ _ _
                refine z_aload rfl rfl ?_
                refine z_dup rfl rfl ?_
                refine z_getI (v := J 29 5) rfl rfl ((zU_n (by decide)).trans ((zU_n (by decide)).trans ((zU_n (by decide)).trans (c1.symm)))) ?_
                refine z_pushI (z := 1) rfl rfl ?_
                refine z_iadd (e := (J 29 5) + 1) rfl rfl ?_
                refine z_putI (y := 8) rfl rfl rfl ?_
                refine z_aload rfl rfl ?_
                refine z_dup rfl rfl ?_
                refine z_getI (v := J 50 9) rfl rfl ((zU_x (by decide)).trans ((zU_n (by decide)).trans ((zU_n (by decide)).trans ((zU_n (by decide)).trans (rfl))))) ?_
                refine z_pushI (z := 1) rfl rfl ?_
                refine z_isub (e := (J 50 9) - 1) rfl rfl ?_
                refine z_putI (y := 9) rfl rfl rfl ?_
                refine z_aload rfl rfl ?_
                refine z_getI (v := (J 50 9) - 1) rfl rfl (zU_e) ?_
                refine z_iret rfl rfl ?_
                refine ⟨?_, ?_⟩
                · first | rfl | exact congrArg (fun v => some (zi v)) (by omega) | (exfalso; omega)
                · have hs := (zK_x (a := 50) (x := 9) (v := (J 50 9) - 1) (zK_x (a := 50) (x := 8) (v := (J 29 5) + 1) (zK_u (a := 52) (x := J 58 (J 29 5)) (v := J 60 (J 29 5)) (zK_x (a := 29) (x := 5) (v := (J 29 5) + 1) (zK_u (a := 9) (x := 40 + (J 31 (J 29 5))) (v := J 33 (J 29 5)) (zK_r (k := (kL [] [(29, 5), (50, 8), (50, 9)])) (A := J))) rfl)) rfl) rfl)
                  have ev : J 60 (J 29 5) = J 33 (J 29 5) := by omega
                  have hY2 := RelY_k hs (by repeat' constructor) (fun p => by repeat' constructor) (by rw [ev]; exact RelY_p (p := J 30 (J 29 5)) (w := 1) hY (by omega) (by omega) (zFit_c hfit (by omega)) (by omega) rfl (by omega))
                  have hs2 := (zK_u (a := 50) (x := 9) (v := (J 50 9) - 1) (zK_u (a := 50) (x := 8) (v := (J 29 5) + 1) (zK_x (a := 52) (x := J 58 (J 29 5)) (v := J 60 (J 29 5)) (zK_u (a := 29) (x := 5) (v := (J 29 5) + 1) (zK_x (a := 9) (x := 40 + (J 31 (J 29 5))) (v := J 33 (J 29 5)) (zK_r (k := (kL [9, 52] [])) (A := J)) rfl)) rfl)))
                  have hC2 := RelC_k hs2 (by repeat' constructor) (fun p => by repeat' constructor) (RelC_redo hC (by omega))
                  have hk := (zK_x (a := 50) (x := 9) (v := (J 50 9) - 1) (zK_x (a := 50) (x := 8) (v := (J 29 5) + 1) (zK_x (a := 52) (x := J 58 (J 29 5)) (v := J 60 (J 29 5)) (zK_x (a := 29) (x := 5) (v := (J 29 5) + 1) (zK_x (a := 9) (x := 40 + (J 31 (J 29 5))) (v := J 33 (J 29 5)) (zK_r (k := (kL [9, 52] [(29, 5), (50, 8), (50, 9)])) (A := J)) rfl) rfl) rfl) rfl) rfl)
                  exact ⟨hR, hG, hY2, RelD_k hk (by repeat' constructor) (fun p => by repeat' constructor) hD, RelP_k hk (by repeat' constructor) (fun p => by repeat' constructor) hP, hC2, RelA_k hk (by repeat' constructor) (fun p => by repeat' constructor) hAc, RelS_k hk (zK_r (k := kM)) (fun x j a b => ⟨kL_38 (by decide) (by decide) x j a b, kM_38 x j a b⟩) (fun p => ⟨rfl, rfl, rfl⟩) rfl hS, RelT_k hk (by repeat' constructor) (fun p => by repeat' constructor) hTp, RelX_k hk (by repeat' constructor) (fun p => by repeat' constructor) hX, RelW_k hk ⟨rfl, rfl⟩ trivial hW⟩
              · have hxhq6 : J 57 (J 29 5) = 2 := hxhq6
                refine z_aload rfl rfl ?_
                refine z_getR (r := 53) rfl rfl (hRr _ rm_50_4 (by decide)) ?_
                refine z_iload rfl rfl ?_
                refine z_iload rfl rfl ?_
                refine z_iast (e := J 60 (J 29 5)) rfl rfl (by decide) (by omega) rfl ?_
                refine z_goto rfl ?_
                refine z_vret rfl rfl ?_
                show zW _ _ _ _ _ _ _ _ _ _
                refine z_aload rfl rfl ?_
                refine z_dup rfl rfl ?_
                refine z_getI (v := J 29 5) rfl rfl ((zU_n (by decide)).trans ((zU_n (by decide)).trans ((zU_n (by decide)).trans (c1.symm)))) ?_
                refine z_pushI (z := 1) rfl rfl ?_
                refine z_iadd (e := (J 29 5) + 1) rfl rfl ?_
                refine z_putI (y := 8) rfl rfl rfl ?_
                refine z_aload rfl rfl ?_
                refine z_dup rfl rfl ?_
                refine z_getI (v := J 50 9) rfl rfl ((zU_x (by decide)).trans ((zU_n (by decide)).trans ((zU_n (by decide)).trans ((zU_n (by decide)).trans (rfl))))) ?_
                refine z_pushI (z := 1) rfl rfl ?_
                refine z_isub (e := (J 50 9) - 1) rfl rfl ?_
                refine z_putI (y := 9) rfl rfl rfl ?_
                refine z_aload rfl rfl ?_
                refine z_getI (v := (J 50 9) - 1) rfl rfl (zU_e) ?_
                refine z_iret rfl rfl ?_
                refine ⟨?_, ?_⟩
                · first | rfl | exact congrArg (fun v => some (zi v)) (by omega) | (exfalso; omega)
                · have hs := (zK_x (a := 50) (x := 9) (v := (J 50 9) - 1) (zK_x (a := 50) (x := 8) (v := (J 29 5) + 1) (zK_u (a := 53) (x := J 58 (J 29 5)) (v := J 60 (J 29 5)) (zK_x (a := 29) (x := 5) (v := (J 29 5) + 1) (zK_u (a := 9) (x := 40 + (J 31 (J 29 5))) (v := J 33 (J 29 5)) (zK_r (k := (kL [] [(29, 5), (50, 8), (50, 9)])) (A := J))) rfl)) rfl) rfl)
                  have ev : J 60 (J 29 5) = J 33 (J 29 5) := by omega
                  have hY2 := RelY_k hs (by repeat' constructor) (fun p => by repeat' constructor) (by rw [ev]; exact RelY_p (p := J 30 (J 29 5)) (w := 2) hY (by omega) (by omega) (zFit_c hfit (by omega)) (by omega) rfl (by omega))
                  have hs2 := (zK_u (a := 50) (x := 9) (v := (J 50 9) - 1) (zK_u (a := 50) (x := 8) (v := (J 29 5) + 1) (zK_x (a := 53) (x := J 58 (J 29 5)) (v := J 60 (J 29 5)) (zK_u (a := 29) (x := 5) (v := (J 29 5) + 1) (zK_x (a := 9) (x := 40 + (J 31 (J 29 5))) (v := J 33 (J 29 5)) (zK_r (k := (kL [9, 53] [])) (A := J)) rfl)) rfl)))
                  have hC2 := RelC_k hs2 (by repeat' constructor) (fun p => by repeat' constructor) (RelC_redo hC (by omega))
                  have hk := (zK_x (a := 50) (x := 9) (v := (J 50 9) - 1) (zK_x (a := 50) (x := 8) (v := (J 29 5) + 1) (zK_x (a := 53) (x := J 58 (J 29 5)) (v := J 60 (J 29 5)) (zK_x (a := 29) (x := 5) (v := (J 29 5) + 1) (zK_x (a := 9) (x := 40 + (J 31 (J 29 5))) (v := J 33 (J 29 5)) (zK_r (k := (kL [9, 53] [(29, 5), (50, 8), (50, 9)])) (A := J)) rfl) rfl) rfl) rfl) rfl)
                  exact ⟨hR, hG, hY2, RelD_k hk (by repeat' constructor) (fun p => by repeat' constructor) hD, RelP_k hk (by repeat' constructor) (fun p => by repeat' constructor) hP, hC2, RelA_k hk (by repeat' constructor) (fun p => by repeat' constructor) hAc, RelS_k hk (zK_r (k := kM)) (fun x j a b => ⟨kL_38 (by decide) (by decide) x j a b, kM_38 x j a b⟩) (fun p => ⟨rfl, rfl, rfl⟩) rfl hS, RelT_k hk (by repeat' constructor) (fun p => by repeat' constructor) hTp, RelX_k hk (by repeat' constructor) (fun p => by repeat' constructor) hX, RelW_k hk ⟨rfl, rfl⟩ trivial hW⟩
              · have hxhq6 : J 57 (J 29 5) = 3 := hxhq6
                refine z_aload rfl rfl ?_
                refine z_getR (r := 54) rfl rfl (hRr _ rm_50_5 (by decide)) ?_
                refine z_iload rfl rfl ?_
                refine z_iload rfl rfl ?_
                refine z_iast (e := J 60 (J 29 5)) rfl rfl (by decide) (by omega) rfl ?_
                refine z_goto rfl ?_
                refine z_vret rfl rfl ?_
                show zW _ _ _ _ _ _ _ _ _ _
                refine z_aload rfl rfl ?_
                refine z_dup rfl rfl ?_
                refine z_getI (v := J 29 5) rfl rfl ((zU_n (by decide)).trans ((zU_n (by decide)).trans ((zU_n (by decide)).trans (c1.symm)))) ?_
                refine z_pushI (z := 1) rfl rfl ?_
                refine z_iadd (e := (J 29 5) + 1) rfl rfl ?_
                refine z_putI (y := 8) rfl rfl rfl ?_
                refine z_aload rfl rfl ?_
                refine z_dup rfl rfl ?_
                refine z_getI (v := J 50 9) rfl rfl ((zU_x (by decide)).trans ((zU_n (by decide)).trans ((zU_n (by decide)).trans ((zU_n (by decide)).trans (rfl))))) ?_
                refine z_pushI (z := 1) rfl rfl ?_
                refine z_isub (e := (J 50 9) - 1) rfl rfl ?_
                refine z_putI (y := 9) rfl rfl rfl ?_
                refine z_aload rfl rfl ?_
                refine z_getI (v := (J 50 9) - 1) rfl rfl (zU_e) ?_
                refine z_iret rfl rfl ?_
                refine ⟨?_, ?_⟩
                · first | rfl | exact congrArg (fun v => some (zi v)) (by omega) | (exfalso; omega)
                · have hs := (zK_x (a := 50) (x := 9) (v := (J 50 9) - 1) (zK_x (a := 50) (x := 8) (v := (J 29 5) + 1) (zK_u (a := 54) (x := J 58 (J 29 5)) (v := J 60 (J 29 5)) (zK_x (a := 29) (x := 5) (v := (J 29 5) + 1) (zK_u (a := 9) (x := 40 + (J 31 (J 29 5))) (v := J 33 (J 29 5)) (zK_r (k := (kL [] [(29, 5), (50, 8), (50, 9)])) (A := J))) rfl)) rfl) rfl)
                  have ev : J 60 (J 29 5) = J 33 (J 29 5) := by omega
                  have hY2 := RelY_k hs (by repeat' constructor) (fun p => by repeat' constructor) (by rw [ev]; exact RelY_p (p := J 30 (J 29 5)) (w := 3) hY (by omega) (by omega) (zFit_c hfit (by omega)) (by omega) rfl (by omega))
                  have hs2 := (zK_u (a := 50) (x := 9) (v := (J 50 9) - 1) (zK_u (a := 50) (x := 8) (v := (J 29 5) + 1) (zK_x (a := 54) (x := J 58 (J 29 5)) (v := J 60 (J 29 5)) (zK_u (a := 29) (x := 5) (v := (J 29 5) + 1) (zK_x (a := 9) (x := 40 + (J 31 (J 29 5))) (v := J 33 (J 29 5)) (zK_r (k := (kL [9, 54] [])) (A := J)) rfl)) rfl)))
                  have hC2 := RelC_k hs2 (by repeat' constructor) (fun p => by repeat' constructor) (RelC_redo hC (by omega))
                  have hk := (zK_x (a := 50) (x := 9) (v := (J 50 9) - 1) (zK_x (a := 50) (x := 8) (v := (J 29 5) + 1) (zK_x (a := 54) (x := J 58 (J 29 5)) (v := J 60 (J 29 5)) (zK_x (a := 29) (x := 5) (v := (J 29 5) + 1) (zK_x (a := 9) (x := 40 + (J 31 (J 29 5))) (v := J 33 (J 29 5)) (zK_r (k := (kL [9, 54] [(29, 5), (50, 8), (50, 9)])) (A := J)) rfl) rfl) rfl) rfl) rfl)
                  exact ⟨hR, hG, hY2, RelD_k hk (by repeat' constructor) (fun p => by repeat' constructor) hD, RelP_k hk (by repeat' constructor) (fun p => by repeat' constructor) hP, hC2, RelA_k hk (by repeat' constructor) (fun p => by repeat' constructor) hAc, RelS_k hk (zK_r (k := kM)) (fun x j a b => ⟨kL_38 (by decide) (by decide) x j a b, kM_38 x j a b⟩) (fun p => ⟨rfl, rfl, rfl⟩) rfl hS, RelT_k hk (by repeat' constructor) (fun p => by repeat' constructor) hTp, RelX_k hk (by repeat' constructor) (fun p => by repeat' constructor) hX, RelW_k hk ⟨rfl, rfl⟩ trivial hW⟩
              · have hxhq6 : J 57 (J 29 5) = 4 := hxhq6
                refine z_aload rfl rfl ?_
                refine z_getR (r := 55) rfl rfl (hRr _ rm_50_6 (by decide)) ?_
                refine z_iload rfl rfl ?_
                refine z_iload rfl rfl ?_
                refine z_iast (e := J 60 (J 29 5)) rfl rfl (by decide) (by omega) rfl ?_
                refine z_goto rfl ?_
                refine z_vret rfl rfl ?_
                show zW _ _ _ _ _ _ _ _ _ _
                refine z_aload rfl rfl ?_
                refine z_dup rfl rfl ?_
                refine z_getI (v := J 29 5) rfl rfl ((zU_n (by decide)).trans ((zU_n (by decide)).trans ((zU_n (by decide)).trans (c1.symm)))) ?_
                refine z_pushI (z := 1) rfl rfl ?_
                refine z_iadd (e := (J 29 5) + 1) rfl rfl ?_
                refine z_putI (y := 8) rfl rfl rfl ?_
                refine z_aload rfl rfl ?_
                refine z_dup rfl rfl ?_
                refine z_getI (v := J 50 9) rfl rfl ((zU_x (by decide)).trans ((zU_n (by decide)).trans ((zU_n (by decide)).trans ((zU_n (by decide)).trans (rfl))))) ?_
                refine z_pushI (z := 1) rfl rfl ?_
                refine z_isub (e := (J 50 9) - 1) rfl rfl ?_
                refine z_putI (y := 9) rfl rfl rfl ?_
                refine z_aload rfl rfl ?_
                refine z_getI (v := (J 50 9) - 1) rfl rfl (zU_e) ?_
                refine z_iret rfl rfl ?_
                refine ⟨?_, ?_⟩
                · first | rfl | exact congrArg (fun v => some (zi v)) (by omega) | (exfalso; omega)
                · have hs := (zK_x (a := 50) (x := 9) (v := (J 50 9) - 1) (zK_x (a := 50) (x := 8) (v := (J 29 5) + 1) (zK_u (a := 55) (x := J 58 (J 29 5)) (v := J 60 (J 29 5)) (zK_x (a := 29) (x := 5) (v := (J 29 5) + 1) (zK_u (a := 9) (x := 40 + (J 31 (J 29 5))) (v := J 33 (J 29 5)) (zK_r (k := (kL [] [(29, 5), (50, 8), (50, 9)])) (A := J))) rfl)) rfl) rfl)
                  have ev : J 60 (J 29 5) = J 33 (J 29 5) := by omega
                  have hY2 := RelY_k hs (by repeat' constructor) (fun p => by repeat' constructor) (by rw [ev]; exact RelY_p (p := J 30 (J 29 5)) (w := 4) hY (by omega) (by omega) (zFit_c hfit (by omega)) (by omega) rfl (by omega))
                  have hs2 := (zK_u (a := 50) (x := 9) (v := (J 50 9) - 1) (zK_u (a := 50) (x := 8) (v := (J 29 5) + 1) (zK_x (a := 55) (x := J 58 (J 29 5)) (v := J 60 (J 29 5)) (zK_u (a := 29) (x := 5) (v := (J 29 5) + 1) (zK_x (a := 9) (x := 40 + (J 31 (J 29 5))) (v := J 33 (J 29 5)) (zK_r (k := (kL [9, 55] [])) (A := J)) rfl)) rfl)))
                  have hC2 := RelC_k hs2 (by repeat' constructor) (fun p => by repeat' constructor) (RelC_redo hC (by omega))
                  have hk := (zK_x (a := 50) (x := 9) (v := (J 50 9) - 1) (zK_x (a := 50) (x := 8) (v := (J 29 5) + 1) (zK_x (a := 55) (x := J 58 (J 29 5)) (v := J 60 (J 29 5)) (zK_x (a := 29) (x := 5) (v := (J 29 5) + 1) (zK_x (a := 9) (x := 40 + (J 31 (J 29 5))) (v := J 33 (J 29 5)) (zK_r (k := (kL [9, 55] [(29, 5), (50, 8), (50, 9)])) (A := J)) rfl) rfl) rfl) rfl) rfl)
                  exact ⟨hR, hG, hY2, RelD_k hk (by repeat' constructor) (fun p => by repeat' constructor) hD, RelP_k hk (by repeat' constructor) (fun p => by repeat' constructor) hP, hC2, RelA_k hk (by repeat' constructor) (fun p => by repeat' constructor) hAc, RelS_k hk (zK_r (k := kM)) (fun x j a b => ⟨kL_38 (by decide) (by decide) x j a b, kM_38 x j a b⟩) (fun p => ⟨rfl, rfl, rfl⟩) rfl hS, RelT_k hk (by repeat' constructor) (fun p => by repeat' constructor) hTp, RelX_k hk (by repeat' constructor) (fun p => by repeat' constructor) hX, RelW_k hk ⟨rfl, rfl⟩ trivial hW⟩
            · have hq6 : ∀ q ∈ [((0 : Int), 36), ((1 : Int), 46), ((2 : Int), 56), ((3 : Int), 66), ((4 : Int), 76)], ¬ J 57 (J 29 5) = q.1 := hq6
              have hq6_0 : ¬ J 57 (J 29 5) = 0 := hq6 (0, 36) (by simp)
              have hq6_1 : ¬ J 57 (J 29 5) = 1 := hq6 (1, 46) (by simp)
              have hq6_2 : ¬ J 57 (J 29 5) = 2 := hq6 (2, 56) (by simp)
              have hq6_3 : ¬ J 57 (J 29 5) = 3 := hq6 (3, 66) (by simp)
              have hq6_4 : ¬ J 57 (J 29 5) = 4 := hq6 (4, 76) (by simp)
              refine z_aload rfl rfl ?_
              refine z_getR (r := 56) rfl rfl (hRr _ rm_50_7 (by decide)) ?_
              refine z_iload rfl rfl ?_
              refine z_pushI (z := 5) rfl rfl ?_
              refine z_isub (e := (J 57 (J 29 5)) - 5) rfl rfl ?_
              refine z_iload rfl rfl ?_
              refine z_iast (e := J 60 (J 29 5)) rfl rfl (by decide) (by omega) rfl ?_
              refine z_vret rfl rfl ?_
              show zW _ _ _ _ _ _ _ _ _ _
              refine z_aload rfl rfl ?_
              refine z_dup rfl rfl ?_
              refine z_getI (v := J 29 5) rfl rfl ((zU_n (by decide)).trans ((zU_n (by decide)).trans ((zU_n (by decide)).trans (c1.symm)))) ?_
              refine z_pushI (z := 1) rfl rfl ?_
              refine z_iadd (e := (J 29 5) + 1) rfl rfl ?_
              refine z_putI (y := 8) rfl rfl rfl ?_
              refine z_aload rfl rfl ?_
              refine z_dup rfl rfl ?_
              refine z_getI (v := J 50 9) rfl rfl ((zU_x (by decide)).trans ((zU_n (by decide)).trans ((zU_n (by decide)).trans ((zU_n (by decide)).trans (rfl))))) ?_
              refine z_pushI (z := 1) rfl rfl ?_
              refine z_isub (e := (J 50 9) - 1) rfl rfl ?_
              refine z_putI (y := 9) rfl rfl rfl ?_
              refine z_aload rfl rfl ?_
              refine z_getI (v := (J 50 9) - 1) rfl rfl (zU_e) ?_
              refine z_iret rfl rfl ?_
              refine ⟨?_, ?_⟩
              · first | rfl | exact congrArg (fun v => some (zi v)) (by omega) | (exfalso; omega)
              · have hs := (zK_x (a := 50) (x := 9) (v := (J 50 9) - 1) (zK_x (a := 50) (x := 8) (v := (J 29 5) + 1) (zK_u (a := 56) (x := (J 57 (J 29 5)) - 5) (v := J 60 (J 29 5)) (zK_x (a := 29) (x := 5) (v := (J 29 5) + 1) (zK_u (a := 9) (x := 40 + (J 31 (J 29 5))) (v := J 33 (J 29 5)) (zK_r (k := (kL [] [(29, 5), (50, 8), (50, 9)])) (A := J))) rfl)) rfl) rfl)
                have ev : J 60 (J 29 5) = J 33 (J 29 5) := by omega
                have hY2 := RelY_k hs (by repeat' constructor) (fun p => by repeat' constructor) (by rw [ev]; exact RelY_g (w := J 31 (J 29 5)) hY (by omega) hfit (by omega) (by omega))
                have hs2 := (zK_u (a := 50) (x := 9) (v := (J 50 9) - 1) (zK_u (a := 50) (x := 8) (v := (J 29 5) + 1) (zK_x (a := 56) (x := (J 57 (J 29 5)) - 5) (v := J 60 (J 29 5)) (zK_u (a := 29) (x := 5) (v := (J 29 5) + 1) (zK_x (a := 9) (x := 40 + (J 31 (J 29 5))) (v := J 33 (J 29 5)) (zK_r (k := (kL [9, 56] [])) (A := J)) rfl)) rfl)))
                have hC2 := RelC_k hs2 (by repeat' constructor) (fun p => by repeat' constructor) (RelC_redo hC (by omega))
                have hk := (zK_x (a := 50) (x := 9) (v := (J 50 9) - 1) (zK_x (a := 50) (x := 8) (v := (J 29 5) + 1) (zK_x (a := 56) (x := (J 57 (J 29 5)) - 5) (v := J 60 (J 29 5)) (zK_x (a := 29) (x := 5) (v := (J 29 5) + 1) (zK_x (a := 9) (x := 40 + (J 31 (J 29 5))) (v := J 33 (J 29 5)) (zK_r (k := (kL [9, 56] [(29, 5), (50, 8), (50, 9)])) (A := J)) rfl) rfl) rfl) rfl) rfl)
                exact ⟨hR, hG, hY2, RelD_k hk (by repeat' constructor) (fun p => by repeat' constructor) hD, RelP_k hk (by repeat' constructor) (fun p => by repeat' constructor) hP, hC2, RelA_k hk (by repeat' constructor) (fun p => by repeat' constructor) hAc, RelS_k hk (zK_r (k := kM)) (fun x j a b => ⟨kL_38 (by decide) (by decide) x j a b, kM_38 x j a b⟩) (fun p => ⟨rfl, rfl, rfl⟩) rfl hS, RelT_k hk (by repeat' constructor) (fun p => by repeat' constructor) hTp, RelX_k hk (by repeat' constructor) (fun p => by repeat' constructor) hX, RelW_k hk ⟨rfl, rfl⟩ trivial hW⟩
      · refine z_aload rfl rfl ?_
        refine z_iload rfl rfl ?_
        refine z_callVi (As := [_]) (le := [some _, some _]) rfl rfl rfl (Nat.le_of_ble_eq_true rfl) (Nat.le_of_ble_eq_true rfl) rfl ?_
        refine z_iload rfl rfl ?_
        refine z_if_lt rfl (by omega) (fun h6 => ?_) (fun h6 => ?_)
        · refine z_pushI (z := 0) rfl rfl ?_
          refine z_bret rfl rfl (by decide) ?_
          show zW _ _ _ _ _ _ _ _ _ _
          refine z_if_eqT rfl (by decide) (by decide) ?_
          refine z_pushI (z := (-1)) rfl rfl ?_
          refine z_iret rfl rfl ?_
          show zW _ _ _ _ _ _ _ _ _ _
          refine z_istore rfl rfl ?_
          refine z_iload rfl rfl ?_
          refine z_if_ltT rfl (by decide) (by decide) ?_
          refine z_vret rfl rfl ?_
          show zW _ _ _ _ _ _ _ _ _ _
          refine z_aload rfl rfl ?_
          refine z_dup rfl rfl ?_
          refine z_getI (v := J 29 5) rfl rfl (rfl) ?_
          refine z_pushI (z := 1) rfl rfl ?_
          refine z_iadd (e := (J 29 5) + 1) rfl rfl ?_
          refine z_putI (y := 5) rfl rfl rfl ?_
          refine z_pushI (z := 1) rfl rfl ?_
          refine z_bret rfl rfl (by decide) ?_
          show zW _ _ _ _ _ _ _ _ _ _
          refine z_if_eqF rfl (by decide) (by decide) ?_
          refine z_aload rfl rfl ?_
          refine z_getR (r := 29) rfl rfl (hR _ rm_0_9) ?_
          refine z_getI (v := J 29 6) rfl rfl ((zU_x (by decide)).trans (rfl)) ?_
          refine z_aload rfl rfl ?_
          refine z_getR (r := 29) rfl rfl (hR _ rm_0_9) ?_
          refine z_getI (v := (J 29 5) + 1) rfl rfl (zU_e) ?_
          refine z_isub (e := (J 29 6) - ((J 29 5) + 1)) rfl rfl ?_
          refine z_goto rfl ?_
          refine z_iret rfl rfl ?_
          refine ⟨_, rfl, ?_⟩
          show zW _ _ _ _ [some (.ref 50)] _ _ _ _ _
          refine z_aload rfl rfl ?_
          refine z_getI (v := J 50 9) rfl rfl ((zU_n (by decide)).trans (rfl)) ?_
          refine z_if_neT rfl (by omega) (by omega) ?_
          refine z_aload rfl rfl ?_
          refine z_aload rfl rfl ?_
          refine z_getR (r := 57) rfl rfl (hRr _ rm_50_10 (by decide)) ?_
          refine z_aload rfl rfl ?_
          refine z_getI (v := J 29 5) rfl rfl ((zU_n (by decide)).trans (c1.symm)) ?_
          refine z_iald (v := J 57 (J 29 5)) rfl rfl (by decide) (by omega) ((zU_n (by decide)).trans (rfl)) ?_
          refine z_aload rfl rfl ?_
          refine z_getR (r := 58) rfl rfl (hRr _ rm_50_11 (by decide)) ?_
          refine z_aload rfl rfl ?_
          refine z_getI (v := J 29 5) rfl rfl ((zU_n (by decide)).trans (c1.symm)) ?_
          refine z_iald (v := J 58 (J 29 5)) rfl rfl (by decide) (by omega) ((zU_n (by decide)).trans (rfl)) ?_
          refine z_aload rfl rfl ?_
          refine z_getR (r := 60) rfl rfl (hRr _ rm_50_13 (by decide)) ?_
          refine z_aload rfl rfl ?_
          refine z_getI (v := J 29 5) rfl rfl ((zU_n (by decide)).trans (c1.symm)) ?_
          refine z_iald (v := J 60 (J 29 5)) rfl rfl (by decide) (by omega) ((zU_n (by decide)).trans (rfl)) ?_
          refine z_callVi (As := [_, _, _]) (le := [some _, some _, some _, some _]) rfl rfl rfl (Nat.le_of_ble_eq_true rfl) (Nat.le_of_ble_eq_true rfl) rfl ?_
          refine z_iload rfl rfl ?_
          refine z_sw (T := [((0 : Int), 36), ((1 : Int), 46), ((2 : Int), 56), ((3 : Int), 66), ((4 : Int), 76)]) rfl (by omega) rfl (fun q hq7 hxhq7 => ?_) (fun hq7 => ?_)
          · simp only [List.mem_cons, List.not_mem_nil, or_false] at hq7
            rcases hq7 with rfl | rfl | rfl | rfl | rfl
            · have hxhq7 : J 57 (J 29 5) = 0 := hxhq7
              refine z_aload rfl rfl ?_
              refine z_getR (r := 51) rfl rfl (hRr _ rm_50_2 (by decide)) ?_
              refine z_iload rfl rfl ?_
              refine z_iload rfl rfl ?_
              refine z_iast (e := J 60 (J 29 5)) rfl rfl (by decide) (by omega) rfl ?_
              refine z_goto rfl ?_
              refine z_vret rfl rfl ?_
              show zW _ _ _ _ _ _ _ _ _ _
              refine z_aload rfl rfl ?_
              refine z_dup rfl rfl ?_
              refine z_getI (v := J 29 5) rfl rfl ((zU_n (by decide)).trans ((zU_n (by decide)).trans (c1.symm))) ?_
              refine z_pushI (z := 1) rfl rfl ?_
              refine z_iadd (e := (J 29 5) + 1) rfl rfl ?_
              refine z_putI (y := 8) rfl rfl rfl ?_
              refine z_aload rfl rfl ?_
              refine z_dup rfl rfl ?_
              refine z_getI (v := J 50 9) rfl rfl ((zU_x (by decide)).trans ((zU_n (by decide)).trans ((zU_n (by decide)).trans (rfl)))) ?_
              refine z_pushI (z := 1) rfl rfl ?_
              refine z_isub (e := (J 50 9) - 1) rfl rfl ?_
              refine z_putI (y := 9) rfl rfl rfl ?_
              refine z_aload rfl rfl ?_
              refine z_getI (v := (J 50 9) - 1) rfl rfl (zU_e) ?_
              refine z_iret rfl rfl ?_
              refine ⟨?_, ?_⟩
              · first | rfl | exact congrArg (fun v => some (zi v)) (by omega) | (exfalso; omega)
              · exfalso
                omega
            · have hxhq7 : J 57 (J 29 5) = 1 := hxhq7
              refine z_aload rfl rfl ?_
              refine z_getR (r := 52) rfl rfl (hRr _ rm_50_3 (by decide)) ?_
              refine z_iload rfl rfl ?_
              refine z_iload rfl rfl ?_
              refine z_iast (e := J 60 (J 29 5)) rfl rfl (by decide) (by omega) rfl ?_
              refine z_goto rfl ?_
              refine z_vret rfl rfl ?_
              show zW _ _ _ _ _ _ _ _ _ _
              refine z_aload rfl rfl ?_
              refine z_dup rfl rfl ?_
              refine z_getI (v := J 29 5) rfl rfl ((zU_n (by decide)).trans ((zU_n (by decide)).trans (c1.symm))) ?_
              refine z_pushI (z := 1) rfl rfl ?_
              refine z_iadd (e := (J 29 5) + 1) rfl rfl ?_
              refine z_putI (y := 8) rfl rfl rfl ?_
              refine z_aload rfl rfl ?_
              refine z_dup rfl rfl ?_
              refine z_getI (v := J 50 9) rfl rfl ((zU_x (by decide)).trans ((zU_n (by decide)).trans ((zU_n (by decide)).trans (rfl)))) ?_
              refine z_pushI (z := 1) rfl rfl ?_
              refine z_isub (e := (J 50 9) - 1) rfl rfl ?_
              refine z_putI (y := 9) rfl rfl rfl ?_
              refine z_aload rfl rfl ?_
              refine z_getI (v := (J 50 9) - 1) rfl rfl (zU_e) ?_
              refine z_iret rfl rfl ?_
              refine ⟨?_, ?_⟩
              · first | rfl | exact congrArg (fun v => some (zi v)) (by omega) | (exfalso; omega)
              · exfalso
                omega
            · have hxhq7 : J 57 (J 29 5) = 2 := hxhq7
              refine z_aload rfl rfl ?_
              refine z_getR (r := 53) rfl rfl (hRr _ rm_50_4 (by decide)) ?_
              refine z_iload rfl rfl ?_
              refine z_iload rfl rfl ?_
              refine z_iast (e := J 60 (J 29 5)) rfl rfl (by decide) (by omega) rfl ?_
              refine z_goto rfl ?_
              refine z_vret rfl rfl ?_
              show zW _ _ _ _ _ _ _ _ _ _
              refine z_aload rfl rfl ?_
              refine z_dup rfl rfl ?_
              refine z_getI (v := J 29 5) rfl rfl ((zU_n (by decide)).trans ((zU_n (by decide)).trans (c1.symm))) ?_
              refine z_pushI (z := 1) rfl rfl ?_
              refine z_iadd (e := (J 29 5) + 1) rfl rfl ?_
              refine z_putI (y := 8) rfl rfl rfl ?_
              refine z_aload rfl rfl ?_
              refine z_dup rfl rfl ?_
              refine z_getI (v := J 50 9) rfl rfl ((zU_x (by decide)).trans ((zU_n (by decide)).trans ((zU_n (by decide)).trans (rfl)))) ?_
              refine z_pushI (z := 1) rfl rfl ?_
              refine z_isub (e := (J 50 9) - 1) rfl rfl ?_
              refine z_putI (y := 9) rfl rfl rfl ?_
              refine z_aload rfl rfl ?_
              refine z_getI (v := (J 50 9) - 1) rfl rfl (zU_e) ?_
              refine z_iret rfl rfl ?_
              refine ⟨?_, ?_⟩
              · first | rfl | exact congrArg (fun v => some (zi v)) (by omega) | (exfalso; omega)
              · exfalso
                omega
            · have hxhq7 : J 57 (J 29 5) = 3 := hxhq7
              refine z_aload rfl rfl ?_
              refine z_getR (r := 54) rfl rfl (hRr _ rm_50_5 (by decide)) ?_
              refine z_iload rfl rfl ?_
              refine z_iload rfl rfl ?_
              refine z_iast (e := J 60 (J 29 5)) rfl rfl (by decide) (by omega) rfl ?_
              refine z_goto rfl ?_
              refine z_vret rfl rfl ?_
              show zW _ _ _ _ _ _ _ _ _ _
              refine z_aload rfl rfl ?_
              refine z_dup rfl rfl ?_
              refine z_getI (v := J 29 5) rfl rfl ((zU_n (by decide)).trans ((zU_n (by decide)).trans (c1.symm))) ?_
              refine z_pushI (z := 1) rfl rfl ?_
              refine z_iadd (e := (J 29 5) + 1) rfl rfl ?_
              refine z_putI (y := 8) rfl rfl rfl ?_
              refine z_aload rfl rfl ?_
              refine z_dup rfl rfl ?_
              refine z_getI (v := J 50 9) rfl rfl ((zU_x (by decide)).trans ((zU_n (by decide)).trans ((zU_n (by decide)).trans (rfl)))) ?_
              refine z_pushI (z := 1) rfl rfl ?_
              refine z_isub (e := (J 50 9) - 1) rfl rfl ?_
              refine z_putI (y := 9) rfl rfl rfl ?_
              refine z_aload rfl rfl ?_
              refine z_getI (v := (J 50 9) - 1) rfl rfl (zU_e) ?_
              refine z_iret rfl rfl ?_
              refine ⟨?_, ?_⟩
              · first | rfl | exact congrArg (fun v => some (zi v)) (by omega) | (exfalso; omega)
              · exfalso
                omega
            · have hxhq7 : J 57 (J 29 5) = 4 := hxhq7
              refine z_aload rfl rfl ?_
              refine z_getR (r := 55) rfl rfl (hRr _ rm_50_6 (by decide)) ?_
              refine z_iload rfl rfl ?_
              refine z_iload rfl rfl ?_
              refine z_iast (e := J 60 (J 29 5)) rfl rfl (by decide) (by omega) rfl ?_
              refine z_goto rfl ?_
              refine z_vret rfl rfl ?_
              show zW _ _ _ _ _ _ _ _ _ _
              refine z_aload rfl rfl ?_
              refine z_dup rfl rfl ?_
              refine z_getI (v := J 29 5) rfl rfl ((zU_n (by decide)).trans ((zU_n (by decide)).trans (c1.symm))) ?_
              refine z_pushI (z := 1) rfl rfl ?_
              refine z_iadd (e := (J 29 5) + 1) rfl rfl ?_
              refine z_putI (y := 8) rfl rfl rfl ?_
              refine z_aload rfl rfl ?_
              refine z_dup rfl rfl ?_
              refine z_getI (v := J 50 9) rfl rfl ((zU_x (by decide)).trans ((zU_n (by decide)).trans ((zU_n (by decide)).trans (rfl)))) ?_
              refine z_pushI (z := 1) rfl rfl ?_
              refine z_isub (e := (J 50 9) - 1) rfl rfl ?_
              refine z_putI (y := 9) rfl rfl rfl ?_
              refine z_aload rfl rfl ?_
              refine z_getI (v := (J 50 9) - 1) rfl rfl (zU_e) ?_
              refine z_iret rfl rfl ?_
              refine ⟨?_, ?_⟩
              · first | rfl | exact congrArg (fun v => some (zi v)) (by omega) | (exfalso; omega)
              · exfalso
                omega
          · have hq7 : ∀ q ∈ [((0 : Int), 36), ((1 : Int), 46), ((2 : Int), 56), ((3 : Int), 66), ((4 : Int), 76)], ¬ J 57 (J 29 5) = q.1 := hq7
            have hq7_0 : ¬ J 57 (J 29 5) = 0 := hq7 (0, 36) (by simp)
            have hq7_1 : ¬ J 57 (J 29 5) = 1 := hq7 (1, 46) (by simp)
            have hq7_2 : ¬ J 57 (J 29 5) = 2 := hq7 (2, 56) (by simp)
            have hq7_3 : ¬ J 57 (J 29 5) = 3 := hq7 (3, 66) (by simp)
            have hq7_4 : ¬ J 57 (J 29 5) = 4 := hq7 (4, 76) (by simp)
            refine z_aload rfl rfl ?_
            refine z_getR (r := 56) rfl rfl (hRr _ rm_50_7 (by decide)) ?_
            refine z_iload rfl rfl ?_
            refine z_pushI (z := 5) rfl rfl ?_
            refine z_isub (e := (J 57 (J 29 5)) - 5) rfl rfl ?_
            refine z_iload rfl rfl ?_
            refine z_iast (e := J 60 (J 29 5)) rfl rfl (by decide) (by omega) rfl ?_
            refine z_vret rfl rfl ?_
            show zW _ _ _ _ _ _ _ _ _ _
            refine z_aload rfl rfl ?_
            refine z_dup rfl rfl ?_
            refine z_getI (v := J 29 5) rfl rfl ((zU_n (by decide)).trans ((zU_n (by decide)).trans (c1.symm))) ?_
            refine z_pushI (z := 1) rfl rfl ?_
            refine z_iadd (e := (J 29 5) + 1) rfl rfl ?_
            refine z_putI (y := 8) rfl rfl rfl ?_
            refine z_aload rfl rfl ?_
            refine z_dup rfl rfl ?_
            refine z_getI (v := J 50 9) rfl rfl ((zU_x (by decide)).trans ((zU_n (by decide)).trans ((zU_n (by decide)).trans (rfl)))) ?_
            refine z_pushI (z := 1) rfl rfl ?_
            refine z_isub (e := (J 50 9) - 1) rfl rfl ?_
            refine z_putI (y := 9) rfl rfl rfl ?_
            refine z_aload rfl rfl ?_
            refine z_getI (v := (J 50 9) - 1) rfl rfl (zU_e) ?_
            refine z_iret rfl rfl ?_
            refine ⟨?_, ?_⟩
            · first | rfl | exact congrArg (fun v => some (zi v)) (by omega) | (exfalso; omega)
            · exfalso
              omega
        · refine z_iload rfl rfl ?_
          refine z_aload rfl rfl ?_
          refine z_getI (v := J 8 2) rfl rfl (rfl) ?_
          refine z_icmp_ge rfl (by omega) (by omega) (fun h7 => ?_) (fun h7 => ?_)
          · refine z_pushI (z := 0) rfl rfl ?_
            refine z_bret rfl rfl (by decide) ?_
            show zW _ _ _ _ _ _ _ _ _ _
            refine z_if_eqT rfl (by decide) (by decide) ?_
            refine z_pushI (z := (-1)) rfl rfl ?_
            refine z_iret rfl rfl ?_
            show zW _ _ _ _ _ _ _ _ _ _
            refine z_istore rfl rfl ?_
            refine z_iload rfl rfl ?_
            refine z_if_ltT rfl (by decide) (by decide) ?_
            refine z_vret rfl rfl ?_
            show zW _ _ _ _ _ _ _ _ _ _
            refine z_aload rfl rfl ?_
            refine z_dup rfl rfl ?_
            refine z_getI (v := J 29 5) rfl rfl (rfl) ?_
            refine z_pushI (z := 1) rfl rfl ?_
            refine z_iadd (e := (J 29 5) + 1) rfl rfl ?_
            refine z_putI (y := 5) rfl rfl rfl ?_
            refine z_pushI (z := 1) rfl rfl ?_
            refine z_bret rfl rfl (by decide) ?_
            show zW _ _ _ _ _ _ _ _ _ _
            refine z_if_eqF rfl (by decide) (by decide) ?_
            refine z_aload rfl rfl ?_
            refine z_getR (r := 29) rfl rfl (hR _ rm_0_9) ?_
            refine z_getI (v := J 29 6) rfl rfl ((zU_x (by decide)).trans (rfl)) ?_
            refine z_aload rfl rfl ?_
            refine z_getR (r := 29) rfl rfl (hR _ rm_0_9) ?_
            refine z_getI (v := (J 29 5) + 1) rfl rfl (zU_e) ?_
            refine z_isub (e := (J 29 6) - ((J 29 5) + 1)) rfl rfl ?_
            refine z_goto rfl ?_
            refine z_iret rfl rfl ?_
            refine ⟨_, rfl, ?_⟩
            show zW _ _ _ _ [some (.ref 50)] _ _ _ _ _
            refine z_aload rfl rfl ?_
            refine z_getI (v := J 50 9) rfl rfl ((zU_n (by decide)).trans (rfl)) ?_
            refine z_if_neT rfl (by omega) (by omega) ?_
            refine z_aload rfl rfl ?_
            refine z_aload rfl rfl ?_
            refine z_getR (r := 57) rfl rfl (hRr _ rm_50_10 (by decide)) ?_
            refine z_aload rfl rfl ?_
            refine z_getI (v := J 29 5) rfl rfl ((zU_n (by decide)).trans (c1.symm)) ?_
            refine z_iald (v := J 57 (J 29 5)) rfl rfl (by decide) (by omega) ((zU_n (by decide)).trans (rfl)) ?_
            refine z_aload rfl rfl ?_
            refine z_getR (r := 58) rfl rfl (hRr _ rm_50_11 (by decide)) ?_
            refine z_aload rfl rfl ?_
            refine z_getI (v := J 29 5) rfl rfl ((zU_n (by decide)).trans (c1.symm)) ?_
            refine z_iald (v := J 58 (J 29 5)) rfl rfl (by decide) (by omega) ((zU_n (by decide)).trans (rfl)) ?_
            refine z_aload rfl rfl ?_
            refine z_getR (r := 60) rfl rfl (hRr _ rm_50_13 (by decide)) ?_
            refine z_aload rfl rfl ?_
            refine z_getI (v := J 29 5) rfl rfl ((zU_n (by decide)).trans (c1.symm)) ?_
            refine z_iald (v := J 60 (J 29 5)) rfl rfl (by decide) (by omega) ((zU_n (by decide)).trans (rfl)) ?_
            refine z_callVi (As := [_, _, _]) (le := [some _, some _, some _, some _]) rfl rfl rfl (Nat.le_of_ble_eq_true rfl) (Nat.le_of_ble_eq_true rfl) rfl ?_
            refine z_iload rfl rfl ?_
            refine z_sw (T := [((0 : Int), 36), ((1 : Int), 46), ((2 : Int), 56), ((3 : Int), 66), ((4 : Int), 76)]) rfl (by omega) rfl (fun q hq8 hxhq8 => ?_) (fun hq8 => ?_)
            · simp only [List.mem_cons, List.not_mem_nil, or_false] at hq8
              rcases hq8 with rfl | rfl | rfl | rfl | rfl
              · have hxhq8 : J 57 (J 29 5) = 0 := hxhq8
                refine z_aload rfl rfl ?_
                refine z_getR (r := 51) rfl rfl (hRr _ rm_50_2 (by decide)) ?_
                refine z_iload rfl rfl ?_
                refine z_iload rfl rfl ?_
                refine z_iast (e := J 60 (J 29 5)) rfl rfl (by decide) (by omega) rfl ?_
                refine z_goto rfl ?_
                refine z_vret rfl rfl ?_
                show zW _ _ _ _ _ _ _ _ _ _
                refine z_aload rfl rfl ?_
                refine z_dup rfl rfl ?_
                refine z_getI (v := J 29 5) rfl rfl ((zU_n (by decide)).trans ((zU_n (by decide)).trans (c1.symm))) ?_
                refine z_pushI (z := 1) rfl rfl ?_
                refine z_iadd (e := (J 29 5) + 1) rfl rfl ?_
                refine z_putI (y := 8) rfl rfl rfl ?_
                refine z_aload rfl rfl ?_
                refine z_dup rfl rfl ?_
                refine z_getI (v := J 50 9) rfl rfl ((zU_x (by decide)).trans ((zU_n (by decide)).trans ((zU_n (by decide)).trans (rfl)))) ?_
                refine z_pushI (z := 1) rfl rfl ?_
                refine z_isub (e := (J 50 9) - 1) rfl rfl ?_
                refine z_putI (y := 9) rfl rfl rfl ?_
                refine z_aload rfl rfl ?_
                refine z_getI (v := (J 50 9) - 1) rfl rfl (zU_e) ?_
                refine z_iret rfl rfl ?_
                refine ⟨?_, ?_⟩
                · first | rfl | exact congrArg (fun v => some (zi v)) (by omega) | (exfalso; omega)
                · exfalso
                  omega
              · have hxhq8 : J 57 (J 29 5) = 1 := hxhq8
                refine z_aload rfl rfl ?_
                refine z_getR (r := 52) rfl rfl (hRr _ rm_50_3 (by decide)) ?_
                refine z_iload rfl rfl ?_
                refine z_iload rfl rfl ?_
                refine z_iast (e := J 60 (J 29 5)) rfl rfl (by decide) (by omega) rfl ?_
                refine z_goto rfl ?_
                refine z_vret rfl rfl ?_
                show zW _ _ _ _ _ _ _ _ _ _
                refine z_aload rfl rfl ?_
                refine z_dup rfl rfl ?_
                refine z_getI (v := J 29 5) rfl rfl ((zU_n (by decide)).trans ((zU_n (by decide)).trans (c1.symm))) ?_
                refine z_pushI (z := 1) rfl rfl ?_
                refine z_iadd (e := (J 29 5) + 1) rfl rfl ?_
                refine z_putI (y := 8) rfl rfl rfl ?_
                refine z_aload rfl rfl ?_
                refine z_dup rfl rfl ?_
                refine z_getI (v := J 50 9) rfl rfl ((zU_x (by decide)).trans ((zU_n (by decide)).trans ((zU_n (by decide)).trans (rfl)))) ?_
                refine z_pushI (z := 1) rfl rfl ?_
                refine z_isub (e := (J 50 9) - 1) rfl rfl ?_
                refine z_putI (y := 9) rfl rfl rfl ?_
                refine z_aload rfl rfl ?_
                refine z_getI (v := (J 50 9) - 1) rfl rfl (zU_e) ?_
                refine z_iret rfl rfl ?_
                refine ⟨?_, ?_⟩
                · first | rfl | exact congrArg (fun v => some (zi v)) (by omega) | (exfalso; omega)
                · exfalso
                  omega
              · have hxhq8 : J 57 (J 29 5) = 2 := hxhq8
                refine z_aload rfl rfl ?_
                refine z_getR (r := 53) rfl rfl (hRr _ rm_50_4 (by decide)) ?_
                refine z_iload rfl rfl ?_
                refine z_iload rfl rfl ?_
                refine z_iast (e := J 60 (J 29 5)) rfl rfl (by decide) (by omega) rfl ?_
                refine z_goto rfl ?_
                refine z_vret rfl rfl ?_
                show zW _ _ _ _ _ _ _ _ _ _
                refine z_aload rfl rfl ?_
                refine z_dup rfl rfl ?_
                refine z_getI (v := J 29 5) rfl rfl ((zU_n (by decide)).trans ((zU_n (by decide)).trans (c1.symm))) ?_
                refine z_pushI (z := 1) rfl rfl ?_
                refine z_iadd (e := (J 29 5) + 1) rfl rfl ?_
                refine z_putI (y := 8) rfl rfl rfl ?_
                refine z_aload rfl rfl ?_
                refine z_dup rfl rfl ?_
                refine z_getI (v := J 50 9) rfl rfl ((zU_x (by decide)).trans ((zU_n (by decide)).trans ((zU_n (by decide)).trans (rfl)))) ?_
                refine z_pushI (z := 1) rfl rfl ?_
                refine z_isub (e := (J 50 9) - 1) rfl rfl ?_
                refine z_putI (y := 9) rfl rfl rfl ?_
                refine z_aload rfl rfl ?_
                refine z_getI (v := (J 50 9) - 1) rfl rfl (zU_e) ?_
                refine z_iret rfl rfl ?_
                refine ⟨?_, ?_⟩
                · first | rfl | exact congrArg (fun v => some (zi v)) (by omega) | (exfalso; omega)
                · exfalso
                  omega
              · have hxhq8 : J 57 (J 29 5) = 3 := hxhq8
                refine z_aload rfl rfl ?_
                refine z_getR (r := 54) rfl rfl (hRr _ rm_50_5 (by decide)) ?_
                refine z_iload rfl rfl ?_
                refine z_iload rfl rfl ?_
                refine z_iast (e := J 60 (J 29 5)) rfl rfl (by decide) (by omega) rfl ?_
                refine z_goto rfl ?_
                refine z_vret rfl rfl ?_
                show zW _ _ _ _ _ _ _ _ _ _
                refine z_aload rfl rfl ?_
                refine z_dup rfl rfl ?_
                refine z_getI (v := J 29 5) rfl rfl ((zU_n (by decide)).trans ((zU_n (by decide)).trans (c1.symm))) ?_
                refine z_pushI (z := 1) rfl rfl ?_
                refine z_iadd (e := (J 29 5) + 1) rfl rfl ?_
                refine z_putI (y := 8) rfl rfl rfl ?_
                refine z_aload rfl rfl ?_
                refine z_dup rfl rfl ?_
                refine z_getI (v := J 50 9) rfl rfl ((zU_x (by decide)).trans ((zU_n (by decide)).trans ((zU_n (by decide)).trans (rfl)))) ?_
                refine z_pushI (z := 1) rfl rfl ?_
                refine z_isub (e := (J 50 9) - 1) rfl rfl ?_
                refine z_putI (y := 9) rfl rfl rfl ?_
                refine z_aload rfl rfl ?_
                refine z_getI (v := (J 50 9) - 1) rfl rfl (zU_e) ?_
                refine z_iret rfl rfl ?_
                refine ⟨?_, ?_⟩
                · first | rfl | exact congrArg (fun v => some (zi v)) (by omega) | (exfalso; omega)
                · exfalso
                  omega
              · have hxhq8 : J 57 (J 29 5) = 4 := hxhq8
                refine z_aload rfl rfl ?_
                refine z_getR (r := 55) rfl rfl (hRr _ rm_50_6 (by decide)) ?_
                refine z_iload rfl rfl ?_
                refine z_iload rfl rfl ?_
                refine z_iast (e := J 60 (J 29 5)) rfl rfl (by decide) (by omega) rfl ?_
                refine z_goto rfl ?_
                refine z_vret rfl rfl ?_
                show zW _ _ _ _ _ _ _ _ _ _
                refine z_aload rfl rfl ?_
                refine z_dup rfl rfl ?_
                refine z_getI (v := J 29 5) rfl rfl ((zU_n (by decide)).trans ((zU_n (by decide)).trans (c1.symm))) ?_
                refine z_pushI (z := 1) rfl rfl ?_
                refine z_iadd (e := (J 29 5) + 1) rfl rfl ?_
                refine z_putI (y := 8) rfl rfl rfl ?_
                refine z_aload rfl rfl ?_
                refine z_dup rfl rfl ?_
                refine z_getI (v := J 50 9) rfl rfl ((zU_x (by decide)).trans ((zU_n (by decide)).trans ((zU_n (by decide)).trans (rfl)))) ?_
                refine z_pushI (z := 1) rfl rfl ?_
                refine z_isub (e := (J 50 9) - 1) rfl rfl ?_
                refine z_putI (y := 9) rfl rfl rfl ?_
                refine z_aload rfl rfl ?_
                refine z_getI (v := (J 50 9) - 1) rfl rfl (zU_e) ?_
                refine z_iret rfl rfl ?_
                refine ⟨?_, ?_⟩
                · first | rfl | exact congrArg (fun v => some (zi v)) (by omega) | (exfalso; omega)
                · exfalso
                  omega
            · have hq8 : ∀ q ∈ [((0 : Int), 36), ((1 : Int), 46), ((2 : Int), 56), ((3 : Int), 66), ((4 : Int), 76)], ¬ J 57 (J 29 5) = q.1 := hq8
              have hq8_0 : ¬ J 57 (J 29 5) = 0 := hq8 (0, 36) (by simp)
              have hq8_1 : ¬ J 57 (J 29 5) = 1 := hq8 (1, 46) (by simp)
              have hq8_2 : ¬ J 57 (J 29 5) = 2 := hq8 (2, 56) (by simp)
              have hq8_3 : ¬ J 57 (J 29 5) = 3 := hq8 (3, 66) (by simp)
              have hq8_4 : ¬ J 57 (J 29 5) = 4 := hq8 (4, 76) (by simp)
              refine z_aload rfl rfl ?_
              refine z_getR (r := 56) rfl rfl (hRr _ rm_50_7 (by decide)) ?_
              refine z_iload rfl rfl ?_
              refine z_pushI (z := 5) rfl rfl ?_
              refine z_isub (e := (J 57 (J 29 5)) - 5) rfl rfl ?_
              refine z_iload rfl rfl ?_
              refine z_iast (e := J 60 (J 29 5)) rfl rfl (by decide) (by omega) rfl ?_
              refine z_vret rfl rfl ?_
              show zW _ _ _ _ _ _ _ _ _ _
              refine z_aload rfl rfl ?_
              refine z_dup rfl rfl ?_
              refine z_getI (v := J 29 5) rfl rfl ((zU_n (by decide)).trans ((zU_n (by decide)).trans (c1.symm))) ?_
              refine z_pushI (z := 1) rfl rfl ?_
              refine z_iadd (e := (J 29 5) + 1) rfl rfl ?_
              refine z_putI (y := 8) rfl rfl rfl ?_
              refine z_aload rfl rfl ?_
              refine z_dup rfl rfl ?_
              refine z_getI (v := J 50 9) rfl rfl ((zU_x (by decide)).trans ((zU_n (by decide)).trans ((zU_n (by decide)).trans (rfl)))) ?_
              refine z_pushI (z := 1) rfl rfl ?_
              refine z_isub (e := (J 50 9) - 1) rfl rfl ?_
              refine z_putI (y := 9) rfl rfl rfl ?_
              refine z_aload rfl rfl ?_
              refine z_getI (v := (J 50 9) - 1) rfl rfl (zU_e) ?_
              refine z_iret rfl rfl ?_
              refine ⟨?_, ?_⟩
              · first | rfl | exact congrArg (fun v => some (zi v)) (by omega) | (exfalso; omega)
              · exfalso
                omega
          · refine z_pushI (z := 1) rfl rfl ?_
            refine z_goto rfl ?_
            refine z_bret rfl rfl (by decide) ?_
            show zW _ _ _ _ _ _ _ _ _ _
            refine z_if_eqF rfl (by decide) (by decide) ?_
            refine z_iload rfl rfl ?_
            refine z_pushI (z := 5) rfl rfl ?_
            refine z_imul (e := (J 30 (J 29 5)) * 5) rfl rfl ?_
            refine z_iload rfl rfl ?_
            refine z_iadd (e := (J 30 (J 29 5)) * 5 + (J 31 (J 29 5))) rfl rfl ?_
            refine z_goto rfl ?_
            refine z_iret rfl rfl ?_
            show zW _ _ _ _ _ _ _ _ _ _
            refine z_istore rfl rfl ?_
            refine z_iload rfl rfl ?_
            refine z_if_lt rfl (by omega) (fun h8 => ?_) (fun h8 => ?_)
            · refine z_vret rfl rfl ?_
              show zW _ _ _ _ _ _ _ _ _ _
              refine z_aload rfl rfl ?_
              refine z_dup rfl rfl ?_
              refine z_getI (v := J 29 5) rfl rfl (rfl) ?_
              refine z_pushI (z := 1) rfl rfl ?_
              refine z_iadd (e := (J 29 5) + 1) rfl rfl ?_
              refine z_putI (y := 5) rfl rfl rfl ?_
              refine z_pushI (z := 1) rfl rfl ?_
              refine z_bret rfl rfl (by decide) ?_
              show zW _ _ _ _ _ _ _ _ _ _
              refine z_if_eqF rfl (by decide) (by decide) ?_
              refine z_aload rfl rfl ?_
              refine z_getR (r := 29) rfl rfl (hR _ rm_0_9) ?_
              refine z_getI (v := J 29 6) rfl rfl ((zU_x (by decide)).trans (rfl)) ?_
              refine z_aload rfl rfl ?_
              refine z_getR (r := 29) rfl rfl (hR _ rm_0_9) ?_
              refine z_getI (v := (J 29 5) + 1) rfl rfl (zU_e) ?_
              refine z_isub (e := (J 29 6) - ((J 29 5) + 1)) rfl rfl ?_
              refine z_goto rfl ?_
              refine z_iret rfl rfl ?_
              refine ⟨_, rfl, ?_⟩
              show zW _ _ _ _ [some (.ref 50)] _ _ _ _ _
              refine z_aload rfl rfl ?_
              refine z_getI (v := J 50 9) rfl rfl ((zU_n (by decide)).trans (rfl)) ?_
              refine z_if_neT rfl (by omega) (by omega) ?_
              refine z_aload rfl rfl ?_
              refine z_aload rfl rfl ?_
              refine z_getR (r := 57) rfl rfl (hRr _ rm_50_10 (by decide)) ?_
              refine z_aload rfl rfl ?_
              refine z_getI (v := J 29 5) rfl rfl ((zU_n (by decide)).trans (c1.symm)) ?_
              refine z_iald (v := J 57 (J 29 5)) rfl rfl (by decide) (by omega) ((zU_n (by decide)).trans (rfl)) ?_
              refine z_aload rfl rfl ?_
              refine z_getR (r := 58) rfl rfl (hRr _ rm_50_11 (by decide)) ?_
              refine z_aload rfl rfl ?_
              refine z_getI (v := J 29 5) rfl rfl ((zU_n (by decide)).trans (c1.symm)) ?_
              refine z_iald (v := J 58 (J 29 5)) rfl rfl (by decide) (by omega) ((zU_n (by decide)).trans (rfl)) ?_
              refine z_aload rfl rfl ?_
              refine z_getR (r := 60) rfl rfl (hRr _ rm_50_13 (by decide)) ?_
              refine z_aload rfl rfl ?_
              refine z_getI (v := J 29 5) rfl rfl ((zU_n (by decide)).trans (c1.symm)) ?_
              refine z_iald (v := J 60 (J 29 5)) rfl rfl (by decide) (by omega) ((zU_n (by decide)).trans (rfl)) ?_
              refine z_callVi (As := [_, _, _]) (le := [some _, some _, some _, some _]) rfl rfl rfl (Nat.le_of_ble_eq_true rfl) (Nat.le_of_ble_eq_true rfl) rfl ?_
              refine z_iload rfl rfl ?_
              refine z_sw (T := [((0 : Int), 36), ((1 : Int), 46), ((2 : Int), 56), ((3 : Int), 66), ((4 : Int), 76)]) rfl (by omega) rfl (fun q hq9 hxhq9 => ?_) (fun hq9 => ?_)
              · simp only [List.mem_cons, List.not_mem_nil, or_false] at hq9
                rcases hq9 with rfl | rfl | rfl | rfl | rfl
                · have hxhq9 : J 57 (J 29 5) = 0 := hxhq9
                  refine z_aload rfl rfl ?_
                  refine z_getR (r := 51) rfl rfl (hRr _ rm_50_2 (by decide)) ?_
                  refine z_iload rfl rfl ?_
                  refine z_iload rfl rfl ?_
                  refine z_iast (e := J 60 (J 29 5)) rfl rfl (by decide) (by omega) rfl ?_
                  refine z_goto rfl ?_
                  refine z_vret rfl rfl ?_
                  show zW _ _ _ _ _ _ _ _ _ _
                  refine z_aload rfl rfl ?_
                  refine z_dup rfl rfl ?_
                  refine z_getI (v := J 29 5) rfl rfl ((zU_n (by decide)).trans ((zU_n (by decide)).trans (c1.symm))) ?_
                  refine z_pushI (z := 1) rfl rfl ?_
                  refine z_iadd (e := (J 29 5) + 1) rfl rfl ?_
                  refine z_putI (y := 8) rfl rfl rfl ?_
                  refine z_aload rfl rfl ?_
                  refine z_dup rfl rfl ?_
                  refine z_getI (v := J 50 9) rfl rfl ((zU_x (by decide)).trans ((zU_n (by decide)).trans ((zU_n (by decide)).trans (rfl)))) ?_
                  refine z_pushI (z := 1) rfl rfl ?_
                  refine z_isub (e := (J 50 9) - 1) rfl rfl ?_
                  refine z_putI (y := 9) rfl rfl rfl ?_
                  refine z_aload rfl rfl ?_
                  refine z_getI (v := (J 50 9) - 1) rfl rfl (zU_e) ?_
                  refine z_iret rfl rfl ?_
                  refine ⟨?_, ?_⟩
                  · first | rfl | exact congrArg (fun v => some (zi v)) (by omega) | (exfalso; omega)
                  · exfalso
                    omega
                · have hxhq9 : J 57 (J 29 5) = 1 := hxhq9
                  refine z_aload rfl rfl ?_
                  refine z_getR (r := 52) rfl rfl (hRr _ rm_50_3 (by decide)) ?_
                  refine z_iload rfl rfl ?_
                  refine z_iload rfl rfl ?_
                  refine z_iast (e := J 60 (J 29 5)) rfl rfl (by decide) (by omega) rfl ?_
                  refine z_goto rfl ?_
                  refine z_vret rfl rfl ?_
                  show zW _ _ _ _ _ _ _ _ _ _
                  refine z_aload rfl rfl ?_
                  refine z_dup rfl rfl ?_
                  refine z_getI (v := J 29 5) rfl rfl ((zU_n (by decide)).trans ((zU_n (by decide)).trans (c1.symm))) ?_
                  refine z_pushI (z := 1) rfl rfl ?_
                  refine z_iadd (e := (J 29 5) + 1) rfl rfl ?_
                  refine z_putI (y := 8) rfl rfl rfl ?_
                  refine z_aload rfl rfl ?_
                  refine z_dup rfl rfl ?_
                  refine z_getI (v := J 50 9) rfl rfl ((zU_x (by decide)).trans ((zU_n (by decide)).trans ((zU_n (by decide)).trans (rfl)))) ?_
                  refine z_pushI (z := 1) rfl rfl ?_
                  refine z_isub (e := (J 50 9) - 1) rfl rfl ?_
                  refine z_putI (y := 9) rfl rfl rfl ?_
                  refine z_aload rfl rfl ?_
                  refine z_getI (v := (J 50 9) - 1) rfl rfl (zU_e) ?_
                  refine z_iret rfl rfl ?_
                  refine ⟨?_, ?_⟩
                  · first | rfl | exact congrArg (fun v => some (zi v)) (by omega) | (exfalso; omega)
                  · exfalso
                    omega
                · have hxhq9 : J 57 (J 29 5) = 2 := hxhq9
                  refine z_aload rfl rfl ?_
                  refine z_getR (r := 53) rfl rfl (hRr _ rm_50_4 (by decide)) ?_
                  refine z_iload rfl rfl ?_
                  refine z_iload rfl rfl ?_
                  refine z_iast (e := J 60 (J 29 5)) rfl rfl (by decide) (by omega) rfl ?_
                  refine z_goto rfl ?_
                  refine z_vret rfl rfl ?_
                  show zW _ _ _ _ _ _ _ _ _ _
                  refine z_aload rfl rfl ?_
                  refine z_dup rfl rfl ?_
                  refine z_getI (v := J 29 5) rfl rfl ((zU_n (by decide)).trans ((zU_n (by decide)).trans (c1.symm))) ?_
                  refine z_pushI (z := 1) rfl rfl ?_
                  refine z_iadd (e := (J 29 5) + 1) rfl rfl ?_
                  refine z_putI (y := 8) rfl rfl rfl ?_
                  refine z_aload rfl rfl ?_
                  refine z_dup rfl rfl ?_
                  refine z_getI (v := J 50 9) rfl rfl ((zU_x (by decide)).trans ((zU_n (by decide)).trans ((zU_n (by decide)).trans (rfl)))) ?_
                  refine z_pushI (z := 1) rfl rfl ?_
                  refine z_isub (e := (J 50 9) - 1) rfl rfl ?_
                  refine z_putI (y := 9) rfl rfl rfl ?_
                  refine z_aload rfl rfl ?_
                  refine z_getI (v := (J 50 9) - 1) rfl rfl (zU_e) ?_
                  refine z_iret rfl rfl ?_
                  refine ⟨?_, ?_⟩
                  · first | rfl | exact congrArg (fun v => some (zi v)) (by omega) | (exfalso; omega)
                  · exfalso
                    omega
                · have hxhq9 : J 57 (J 29 5) = 3 := hxhq9
                  refine z_aload rfl rfl ?_
                  refine z_getR (r := 54) rfl rfl (hRr _ rm_50_5 (by decide)) ?_
                  refine z_iload rfl rfl ?_
                  refine z_iload rfl rfl ?_
                  refine z_iast (e := J 60 (J 29 5)) rfl rfl (by decide) (by omega) rfl ?_
                  refine z_goto rfl ?_
                  refine z_vret rfl rfl ?_
                  show zW _ _ _ _ _ _ _ _ _ _
                  refine z_aload rfl rfl ?_
                  refine z_dup rfl rfl ?_
                  refine z_getI (v := J 29 5) rfl rfl ((zU_n (by decide)).trans ((zU_n (by decide)).trans (c1.symm))) ?_
                  refine z_pushI (z := 1) rfl rfl ?_
                  refine z_iadd (e := (J 29 5) + 1) rfl rfl ?_
                  refine z_putI (y := 8) rfl rfl rfl ?_
                  refine z_aload rfl rfl ?_
                  refine z_dup rfl rfl ?_
                  refine z_getI (v := J 50 9) rfl rfl ((zU_x (by decide)).trans ((zU_n (by decide)).trans ((zU_n (by decide)).trans (rfl)))) ?_
                  refine z_pushI (z := 1) rfl rfl ?_
                  refine z_isub (e := (J 50 9) - 1) rfl rfl ?_
                  refine z_putI (y := 9) rfl rfl rfl ?_
                  refine z_aload rfl rfl ?_
                  refine z_getI (v := (J 50 9) - 1) rfl rfl (zU_e) ?_
                  refine z_iret rfl rfl ?_
                  refine ⟨?_, ?_⟩
                  · first | rfl | exact congrArg (fun v => some (zi v)) (by omega) | (exfalso; omega)
                  · exfalso
                    omega
                · have hxhq9 : J 57 (J 29 5) = 4 := hxhq9
                  refine z_aload rfl rfl ?_
                  refine z_getR (r := 55) rfl rfl (hRr _ rm_50_6 (by decide)) ?_
                  refine z_iload rfl rfl ?_
                  refine z_iload rfl rfl ?_
                  refine z_iast (e := J 60 (J 29 5)) rfl rfl (by decide) (by omega) rfl ?_
                  refine z_goto rfl ?_
                  refine z_vret rfl rfl ?_
                  show zW _ _ _ _ _ _ _ _ _ _
                  refine z_aload rfl rfl ?_
                  refine z_dup rfl rfl ?_
                  refine z_getI (v := J 29 5) rfl rfl ((zU_n (by decide)).trans ((zU_n (by decide)).trans (c1.symm))) ?_
                  refine z_pushI (z := 1) rfl rfl ?_
                  refine z_iadd (e := (J 29 5) + 1) rfl rfl ?_
                  refine z_putI (y := 8) rfl rfl rfl ?_
                  refine z_aload rfl rfl ?_
                  refine z_dup rfl rfl ?_
                  refine z_getI (v := J 50 9) rfl rfl ((zU_x (by decide)).trans ((zU_n (by decide)).trans ((zU_n (by decide)).trans (rfl)))) ?_
                  refine z_pushI (z := 1) rfl rfl ?_
                  refine z_isub (e := (J 50 9) - 1) rfl rfl ?_
                  refine z_putI (y := 9) rfl rfl rfl ?_
                  refine z_aload rfl rfl ?_
                  refine z_getI (v := (J 50 9) - 1) rfl rfl (zU_e) ?_
                  refine z_iret rfl rfl ?_
                  refine ⟨?_, ?_⟩
                  · first | rfl | exact congrArg (fun v => some (zi v)) (by omega) | (exfalso; omega)
                  · exfalso
                    omega
              · have hq9 : ∀ q ∈ [((0 : Int), 36), ((1 : Int), 46), ((2 : Int), 56), ((3 : Int), 66), ((4 : Int), 76)], ¬ J 57 (J 29 5) = q.1 := hq9
                have hq9_0 : ¬ J 57 (J 29 5) = 0 := hq9 (0, 36) (by simp)
                have hq9_1 : ¬ J 57 (J 29 5) = 1 := hq9 (1, 46) (by simp)
                have hq9_2 : ¬ J 57 (J 29 5) = 2 := hq9 (2, 56) (by simp)
                have hq9_3 : ¬ J 57 (J 29 5) = 3 := hq9 (3, 66) (by simp)
                have hq9_4 : ¬ J 57 (J 29 5) = 4 := hq9 (4, 76) (by simp)
                refine z_aload rfl rfl ?_
                refine z_getR (r := 56) rfl rfl (hRr _ rm_50_7 (by decide)) ?_
                refine z_iload rfl rfl ?_
                refine z_pushI (z := 5) rfl rfl ?_
                refine z_isub (e := (J 57 (J 29 5)) - 5) rfl rfl ?_
                refine z_iload rfl rfl ?_
                refine z_iast (e := J 60 (J 29 5)) rfl rfl (by decide) (by omega) rfl ?_
                refine z_vret rfl rfl ?_
                show zW _ _ _ _ _ _ _ _ _ _
                refine z_aload rfl rfl ?_
                refine z_dup rfl rfl ?_
                refine z_getI (v := J 29 5) rfl rfl ((zU_n (by decide)).trans ((zU_n (by decide)).trans (c1.symm))) ?_
                refine z_pushI (z := 1) rfl rfl ?_
                refine z_iadd (e := (J 29 5) + 1) rfl rfl ?_
                refine z_putI (y := 8) rfl rfl rfl ?_
                refine z_aload rfl rfl ?_
                refine z_dup rfl rfl ?_
                refine z_getI (v := J 50 9) rfl rfl ((zU_x (by decide)).trans ((zU_n (by decide)).trans ((zU_n (by decide)).trans (rfl)))) ?_
                refine z_pushI (z := 1) rfl rfl ?_
                refine z_isub (e := (J 50 9) - 1) rfl rfl ?_
                refine z_putI (y := 9) rfl rfl rfl ?_
                refine z_aload rfl rfl ?_
                refine z_getI (v := (J 50 9) - 1) rfl rfl (zU_e) ?_
                refine z_iret rfl rfl ?_
                refine ⟨?_, ?_⟩
                · first | rfl | exact congrArg (fun v => some (zi v)) (by omega) | (exfalso; omega)
                · exfalso
                  omega
            · refine z_aload rfl rfl ?_
              refine z_getR (r := 9) rfl rfl (hR _ rm_8_1) ?_
              refine z_iload rfl rfl ?_
              refine z_iload rfl rfl ?_
              refine z_iast (e := J 33 (J 29 5)) rfl rfl (by decide) (by omega) rfl ?_
              refine z_vret rfl rfl ?_
              show zW _ _ _ _ _ _ _ _ _ _
              refine z_aload rfl rfl ?_
              refine z_dup rfl rfl ?_
              refine z_getI (v := J 29 5) rfl rfl ((zU_n (by decide)).trans (rfl)) ?_
              refine z_pushI (z := 1) rfl rfl ?_
              refine z_iadd (e := (J 29 5) + 1) rfl rfl ?_
              refine z_putI (y := 5) rfl rfl rfl ?_
              refine z_pushI (z := 1) rfl rfl ?_
              refine z_bret rfl rfl (by decide) ?_
              show zW _ _ _ _ _ _ _ _ _ _
              refine z_if_eqF rfl (by decide) (by decide) ?_
              refine z_aload rfl rfl ?_
              refine z_getR (r := 29) rfl rfl (hR _ rm_0_9) ?_
              refine z_getI (v := J 29 6) rfl rfl ((zU_x (by decide)).trans ((zU_n (by decide)).trans (rfl))) ?_
              refine z_aload rfl rfl ?_
              refine z_getR (r := 29) rfl rfl (hR _ rm_0_9) ?_
              refine z_getI (v := (J 29 5) + 1) rfl rfl (zU_e) ?_
              refine z_isub (e := (J 29 6) - ((J 29 5) + 1)) rfl rfl ?_
              refine z_goto rfl ?_
              refine z_iret rfl rfl ?_
              refine ⟨_, rfl, ?_⟩
              show zW _ _ _ _ [some (.ref 50)] _ _ _ _ _
              refine z_aload rfl rfl ?_
              refine z_getI (v := J 50 9) rfl rfl ((zU_n (by decide)).trans ((zU_n (by decide)).trans (rfl))) ?_
              refine z_if_neT rfl (by omega) (by omega) ?_
              refine z_aload rfl rfl ?_
              refine z_aload rfl rfl ?_
              refine z_getR (r := 57) rfl rfl (hRr _ rm_50_10 (by decide)) ?_
              refine z_aload rfl rfl ?_
              refine z_getI (v := J 29 5) rfl rfl ((zU_n (by decide)).trans ((zU_n (by decide)).trans (c1.symm))) ?_
              refine z_iald (v := J 57 (J 29 5)) rfl rfl (by decide) (by omega) ((zU_n (by decide)).trans ((zU_n (by decide)).trans (rfl))) ?_
              refine z_aload rfl rfl ?_
              refine z_getR (r := 58) rfl rfl (hRr _ rm_50_11 (by decide)) ?_
              refine z_aload rfl rfl ?_
              refine z_getI (v := J 29 5) rfl rfl ((zU_n (by decide)).trans ((zU_n (by decide)).trans (c1.symm))) ?_
              refine z_iald (v := J 58 (J 29 5)) rfl rfl (by decide) (by omega) ((zU_n (by decide)).trans ((zU_n (by decide)).trans (rfl))) ?_
              refine z_aload rfl rfl ?_
              refine z_getR (r := 60) rfl rfl (hRr _ rm_50_13 (by decide)) ?_
              refine z_aload rfl rfl ?_
              refine z_getI (v := J 29 5) rfl rfl ((zU_n (by decide)).trans ((zU_n (by decide)).trans (c1.symm))) ?_
              refine z_iald (v := J 60 (J 29 5)) rfl rfl (by decide) (by omega) ((zU_n (by decide)).trans ((zU_n (by decide)).trans (rfl))) ?_
              refine z_callVi (As := [_, _, _]) (le := [some _, some _, some _, some _]) rfl rfl rfl (Nat.le_of_ble_eq_true rfl) (Nat.le_of_ble_eq_true rfl) rfl ?_
              refine z_iload rfl rfl ?_
              refine z_sw (T := [((0 : Int), 36), ((1 : Int), 46), ((2 : Int), 56), ((3 : Int), 66), ((4 : Int), 76)]) rfl (by omega) rfl (fun q hq9 hxhq9 => ?_) (fun hq9 => ?_)
              · simp only [List.mem_cons, List.not_mem_nil, or_false] at hq9
                rcases hq9 with rfl | rfl | rfl | rfl | rfl
                · have hxhq9 : J 57 (J 29 5) = 0 := hxhq9
                  refine z_aload rfl rfl ?_
                  refine z_getR (r := 51) rfl rfl (hRr _ rm_50_2 (by decide)) ?_
                  refine z_iload rfl rfl ?_
                  refine z_iload rfl rfl ?_
                  refine z_iast (e := J 60 (J 29 5)) rfl rfl (by decide) (by omega) rfl ?_
                  refine z_goto rfl ?_
                  refine z_vret rfl rfl ?_
                  show zW _ _ _ _ _ _ _ _ _ _
                  refine z_aload rfl rfl ?_
                  refine z_dup rfl rfl ?_
                  refine z_getI (v := J 29 5) rfl rfl ((zU_n (by decide)).trans ((zU_n (by decide)).trans ((zU_n (by decide)).trans (c1.symm)))) ?_
                  refine z_pushI (z := 1) rfl rfl ?_
                  refine z_iadd (e := (J 29 5) + 1) rfl rfl ?_
                  refine z_putI (y := 8) rfl rfl rfl ?_
                  refine z_aload rfl rfl ?_
                  refine z_dup rfl rfl ?_
                  refine z_getI (v := J 50 9) rfl rfl ((zU_x (by decide)).trans ((zU_n (by decide)).trans ((zU_n (by decide)).trans ((zU_n (by decide)).trans (rfl))))) ?_
                  refine z_pushI (z := 1) rfl rfl ?_
                  refine z_isub (e := (J 50 9) - 1) rfl rfl ?_
                  refine z_putI (y := 9) rfl rfl rfl ?_
                  refine z_aload rfl rfl ?_
                  refine z_getI (v := (J 50 9) - 1) rfl rfl (zU_e) ?_
                  refine z_iret rfl rfl ?_
                  refine ⟨?_, ?_⟩
                  · first | rfl | exact congrArg (fun v => some (zi v)) (by omega) | (exfalso; omega)
                  · have hs := (zK_x (a := 50) (x := 9) (v := (J 50 9) - 1) (zK_x (a := 50) (x := 8) (v := (J 29 5) + 1) (zK_u (a := 51) (x := J 58 (J 29 5)) (v := J 60 (J 29 5)) (zK_x (a := 29) (x := 5) (v := (J 29 5) + 1) (zK_u (a := 9) (x := (J 30 (J 29 5)) * 5 + (J 31 (J 29 5))) (v := J 33 (J 29 5)) (zK_r (k := (kL [] [(29, 5), (50, 8), (50, 9)])) (A := J))) rfl)) rfl) rfl)
                    have ev : J 60 (J 29 5) = J 33 (J 29 5) := by omega
                    have hY2 := RelY_k hs (by repeat' constructor) (fun p => by repeat' constructor) (by rw [ev]; exact RelY_p (p := J 30 (J 29 5)) (w := 0) hY (by omega) (by omega) (zFit_c hfit (by omega)) (by omega) rfl (by omega))
                    have hs2 := (zK_u (a := 50) (x := 9) (v := (J 50 9) - 1) (zK_u (a := 50) (x := 8) (v := (J 29 5) + 1) (zK_x (a := 51) (x := J 58 (J 29 5)) (v := J 60 (J 29 5)) (zK_u (a := 29) (x := 5) (v := (J 29 5) + 1) (zK_x (a := 9) (x := (J 30 (J 29 5)) * 5 + (J 31 (J 29 5))) (v := J 33 (J 29 5)) (zK_r (k := (kL [9, 51] [])) (A := J)) rfl)) rfl)))
                    have hC2 := RelC_k hs2 (by repeat' constructor) (fun p => by repeat' constructor) (RelC_redo hC (by omega))
                    have hk := (zK_x (a := 50) (x := 9) (v := (J 50 9) - 1) (zK_x (a := 50) (x := 8) (v := (J 29 5) + 1) (zK_x (a := 51) (x := J 58 (J 29 5)) (v := J 60 (J 29 5)) (zK_x (a := 29) (x := 5) (v := (J 29 5) + 1) (zK_x (a := 9) (x := (J 30 (J 29 5)) * 5 + (J 31 (J 29 5))) (v := J 33 (J 29 5)) (zK_r (k := (kL [9, 51] [(29, 5), (50, 8), (50, 9)])) (A := J)) rfl) rfl) rfl) rfl) rfl)
                    exact ⟨hR, hG, hY2, RelD_k hk (by repeat' constructor) (fun p => by repeat' constructor) hD, RelP_k hk (by repeat' constructor) (fun p => by repeat' constructor) hP, hC2, RelA_k hk (by repeat' constructor) (fun p => by repeat' constructor) hAc, RelS_k hk (zK_r (k := kM)) (fun x j a b => ⟨kL_38 (by decide) (by decide) x j a b, kM_38 x j a b⟩) (fun p => ⟨rfl, rfl, rfl⟩) rfl hS, RelT_k hk (by repeat' constructor) (fun p => by repeat' constructor) hTp, RelX_k hk (by repeat' constructor) (fun p => by repeat' constructor) hX, RelW_k hk ⟨rfl, rfl⟩ trivial hW⟩
                · have hxhq9 : J 57 (J 29 5) = 1 := hxhq9
                  refine z_aload rfl rfl ?_
                  refine z_getR (r := 52) rfl rfl (hRr _ rm_50_3 (by decide)) ?_
                  refine z_iload rfl rfl ?_
                  refine z_iload rfl rfl ?_
                  refine z_iast (e := J 60 (J 29 5)) rfl rfl (by decide) (by omega) rfl ?_
                  refine z_goto rfl ?_
                  refine z_vret rfl rfl ?_
                  show zW _ _ _ _ _ _ _ _ _ _
                  refine z_aload rfl rfl ?_
                  refine z_dup rfl rfl ?_
                  refine z_getI (v := J 29 5) rfl rfl ((zU_n (by decide)).trans ((zU_n (by decide)).trans ((zU_n (by decide)).trans (c1.symm)))) ?_
                  refine z_pushI (z := 1) rfl rfl ?_
                  refine z_iadd (e := (J 29 5) + 1) rfl rfl ?_
                  refine z_putI (y := 8) rfl rfl rfl ?_
                  refine z_aload rfl rfl ?_
                  refine z_dup rfl rfl ?_
                  refine z_getI (v := J 50 9) rfl rfl ((zU_x (by decide)).trans ((zU_n (by decide)).trans ((zU_n (by decide)).trans ((zU_n (by decide)).trans (rfl))))) ?_
                  refine z_pushI (z := 1) rfl rfl ?_
                  refine z_isub (e := (J 50 9) - 1) rfl rfl ?_
                  refine z_putI (y := 9) rfl rfl rfl ?_
                  refine z_aload rfl rfl ?_
                  refine z_getI (v := (J 50 9) - 1) rfl rfl (zU_e) ?_
                  refine z_iret rfl rfl ?_
                  refine ⟨?_, ?_⟩
                  · first | rfl | exact congrArg (fun v => some (zi v)) (by omega) | (exfalso; omega)
                  · have hs := (zK_x (a := 50) (x := 9) (v := (J 50 9) - 1) (zK_x (a := 50) (x := 8) (v := (J 29 5) + 1) (zK_u (a := 52) (x := J 58 (J 29 5)) (v := J 60 (J 29 5)) (zK_x (a := 29) (x := 5) (v := (J 29 5) + 1) (zK_u (a := 9) (x := (J 30 (J 29 5)) * 5 + (J 31 (J 29 5))) (v := J 33 (J 29 5)) (zK_r (k := (kL [] [(29, 5), (50, 8), (50, 9)])) (A := J))) rfl)) rfl) rfl)
                    have ev : J 60 (J 29 5) = J 33 (J 29 5) := by omega
                    have hY2 := RelY_k hs (by repeat' constructor) (fun p => by repeat' constructor) (by rw [ev]; exact RelY_p (p := J 30 (J 29 5)) (w := 1) hY (by omega) (by omega) (zFit_c hfit (by omega)) (by omega) rfl (by omega))
                    have hs2 := (zK_u (a := 50) (x := 9) (v := (J 50 9) - 1) (zK_u (a := 50) (x := 8) (v := (J 29 5) + 1) (zK_x (a := 52) (x := J 58 (J 29 5)) (v := J 60 (J 29 5)) (zK_u (a := 29) (x := 5) (v := (J 29 5) + 1) (zK_x (a := 9) (x := (J 30 (J 29 5)) * 5 + (J 31 (J 29 5))) (v := J 33 (J 29 5)) (zK_r (k := (kL [9, 52] [])) (A := J)) rfl)) rfl)))
                    have hC2 := RelC_k hs2 (by repeat' constructor) (fun p => by repeat' constructor) (RelC_redo hC (by omega))
                    have hk := (zK_x (a := 50) (x := 9) (v := (J 50 9) - 1) (zK_x (a := 50) (x := 8) (v := (J 29 5) + 1) (zK_x (a := 52) (x := J 58 (J 29 5)) (v := J 60 (J 29 5)) (zK_x (a := 29) (x := 5) (v := (J 29 5) + 1) (zK_x (a := 9) (x := (J 30 (J 29 5)) * 5 + (J 31 (J 29 5))) (v := J 33 (J 29 5)) (zK_r (k := (kL [9, 52] [(29, 5), (50, 8), (50, 9)])) (A := J)) rfl) rfl) rfl) rfl) rfl)
                    exact ⟨hR, hG, hY2, RelD_k hk (by repeat' constructor) (fun p => by repeat' constructor) hD, RelP_k hk (by repeat' constructor) (fun p => by repeat' constructor) hP, hC2, RelA_k hk (by repeat' constructor) (fun p => by repeat' constructor) hAc, RelS_k hk (zK_r (k := kM)) (fun x j a b => ⟨kL_38 (by decide) (by decide) x j a b, kM_38 x j a b⟩) (fun p => ⟨rfl, rfl, rfl⟩) rfl hS, RelT_k hk (by repeat' constructor) (fun p => by repeat' constructor) hTp, RelX_k hk (by repeat' constructor) (fun p => by repeat' constructor) hX, RelW_k hk ⟨rfl, rfl⟩ trivial hW⟩
                · have hxhq9 : J 57 (J 29 5) = 2 := hxhq9
                  refine z_aload rfl rfl ?_
                  refine z_getR (r := 53) rfl rfl (hRr _ rm_50_4 (by decide)) ?_
                  refine z_iload rfl rfl ?_
                  refine z_iload rfl rfl ?_
                  refine z_iast (e := J 60 (J 29 5)) rfl rfl (by decide) (by omega) rfl ?_
                  refine z_goto rfl ?_
                  refine z_vret rfl rfl ?_
                  show zW _ _ _ _ _ _ _ _ _ _
                  refine z_aload rfl rfl ?_
                  refine z_dup rfl rfl ?_
                  refine z_getI (v := J 29 5) rfl rfl ((zU_n (by decide)).trans ((zU_n (by decide)).trans ((zU_n (by decide)).trans (c1.symm)))) ?_
                  refine z_pushI (z := 1) rfl rfl ?_
                  refine z_iadd (e := (J 29 5) + 1) rfl rfl ?_
                  refine z_putI (y := 8) rfl rfl rfl ?_
                  refine z_aload rfl rfl ?_
                  refine z_dup rfl rfl ?_
                  refine z_getI (v := J 50 9) rfl rfl ((zU_x (by decide)).trans ((zU_n (by decide)).trans ((zU_n (by decide)).trans ((zU_n (by decide)).trans (rfl))))) ?_
                  refine z_pushI (z := 1) rfl rfl ?_
                  refine z_isub (e := (J 50 9) - 1) rfl rfl ?_
                  refine z_putI (y := 9) rfl rfl rfl ?_
                  refine z_aload rfl rfl ?_
                  refine z_getI (v := (J 50 9) - 1) rfl rfl (zU_e) ?_
                  refine z_iret rfl rfl ?_
                  refine ⟨?_, ?_⟩
                  · first | rfl | exact congrArg (fun v => some (zi v)) (by omega) | (exfalso; omega)
                  · have hs := (zK_x (a := 50) (x := 9) (v := (J 50 9) - 1) (zK_x (a := 50) (x := 8) (v := (J 29 5) + 1) (zK_u (a := 53) (x := J 58 (J 29 5)) (v := J 60 (J 29 5)) (zK_x (a := 29) (x := 5) (v := (J 29 5) + 1) (zK_u (a := 9) (x := (J 30 (J 29 5)) * 5 + (J 31 (J 29 5))) (v := J 33 (J 29 5)) (zK_r (k := (kL [] [(29, 5), (50, 8), (50, 9)])) (A := J))) rfl)) rfl) rfl)
                    have ev : J 60 (J 29 5) = J 33 (J 29 5) := by omega
                    have hY2 := RelY_k hs (by repeat' constructor) (fun p => by repeat' constructor) (by rw [ev]; exact RelY_p (p := J 30 (J 29 5)) (w := 2) hY (by omega) (by omega) (zFit_c hfit (by omega)) (by omega) rfl (by omega))
                    have hs2 := (zK_u (a := 50) (x := 9) (v := (J 50 9) - 1) (zK_u (a := 50) (x := 8) (v := (J 29 5) + 1) (zK_x (a := 53) (x := J 58 (J 29 5)) (v := J 60 (J 29 5)) (zK_u (a := 29) (x := 5) (v := (J 29 5) + 1) (zK_x (a := 9) (x := (J 30 (J 29 5)) * 5 + (J 31 (J 29 5))) (v := J 33 (J 29 5)) (zK_r (k := (kL [9, 53] [])) (A := J)) rfl)) rfl)))
                    have hC2 := RelC_k hs2 (by repeat' constructor) (fun p => by repeat' constructor) (RelC_redo hC (by omega))
                    have hk := (zK_x (a := 50) (x := 9) (v := (J 50 9) - 1) (zK_x (a := 50) (x := 8) (v := (J 29 5) + 1) (zK_x (a := 53) (x := J 58 (J 29 5)) (v := J 60 (J 29 5)) (zK_x (a := 29) (x := 5) (v := (J 29 5) + 1) (zK_x (a := 9) (x := (J 30 (J 29 5)) * 5 + (J 31 (J 29 5))) (v := J 33 (J 29 5)) (zK_r (k := (kL [9, 53] [(29, 5), (50, 8), (50, 9)])) (A := J)) rfl) rfl) rfl) rfl) rfl)
                    exact ⟨hR, hG, hY2, RelD_k hk (by repeat' constructor) (fun p => by repeat' constructor) hD, RelP_k hk (by repeat' constructor) (fun p => by repeat' constructor) hP, hC2, RelA_k hk (by repeat' constructor) (fun p => by repeat' constructor) hAc, RelS_k hk (zK_r (k := kM)) (fun x j a b => ⟨kL_38 (by decide) (by decide) x j a b, kM_38 x j a b⟩) (fun p => ⟨rfl, rfl, rfl⟩) rfl hS, RelT_k hk (by repeat' constructor) (fun p => by repeat' constructor) hTp, RelX_k hk (by repeat' constructor) (fun p => by repeat' constructor) hX, RelW_k hk ⟨rfl, rfl⟩ trivial hW⟩
                · have hxhq9 : J 57 (J 29 5) = 3 := hxhq9
                  refine z_aload rfl rfl ?_
                  refine z_getR (r := 54) rfl rfl (hRr _ rm_50_5 (by decide)) ?_
                  refine z_iload rfl rfl ?_
                  refine z_iload rfl rfl ?_
                  refine z_iast (e := J 60 (J 29 5)) rfl rfl (by decide) (by omega) rfl ?_
                  refine z_goto rfl ?_
                  refine z_vret rfl rfl ?_
                  show zW _ _ _ _ _ _ _ _ _ _
                  refine z_aload rfl rfl ?_
                  refine z_dup rfl rfl ?_
                  refine z_getI (v := J 29 5) rfl rfl ((zU_n (by decide)).trans ((zU_n (by decide)).trans ((zU_n (by decide)).trans (c1.symm)))) ?_
                  refine z_pushI (z := 1) rfl rfl ?_
                  refine z_iadd (e := (J 29 5) + 1) rfl rfl ?_
                  refine z_putI (y := 8) rfl rfl rfl ?_
                  refine z_aload rfl rfl ?_
                  refine z_dup rfl rfl ?_
                  refine z_getI (v := J 50 9) rfl rfl ((zU_x (by decide)).trans ((zU_n (by decide)).trans ((zU_n (by decide)).trans ((zU_n (by decide)).trans (rfl))))) ?_
                  refine z_pushI (z := 1) rfl rfl ?_
                  refine z_isub (e := (J 50 9) - 1) rfl rfl ?_
                  refine z_putI (y := 9) rfl rfl rfl ?_
                  refine z_aload rfl rfl ?_
                  refine z_getI (v := (J 50 9) - 1) rfl rfl (zU_e) ?_
                  refine z_iret rfl rfl ?_
                  refine ⟨?_, ?_⟩
                  · first | rfl | exact congrArg (fun v => some (zi v)) (by omega) | (exfalso; omega)
                  · have hs := (zK_x (a := 50) (x := 9) (v := (J 50 9) - 1) (zK_x (a := 50) (x := 8) (v := (J 29 5) + 1) (zK_u (a := 54) (x := J 58 (J 29 5)) (v := J 60 (J 29 5)) (zK_x (a := 29) (x := 5) (v := (J 29 5) + 1) (zK_u (a := 9) (x := (J 30 (J 29 5)) * 5 + (J 31 (J 29 5))) (v := J 33 (J 29 5)) (zK_r (k := (kL [] [(29, 5), (50, 8), (50, 9)])) (A := J))) rfl)) rfl) rfl)
                    have ev : J 60 (J 29 5) = J 33 (J 29 5) := by omega
                    have hY2 := RelY_k hs (by repeat' constructor) (fun p => by repeat' constructor) (by rw [ev]; exact RelY_p (p := J 30 (J 29 5)) (w := 3) hY (by omega) (by omega) (zFit_c hfit (by omega)) (by omega) rfl (by omega))
                    have hs2 := (zK_u (a := 50) (x := 9) (v := (J 50 9) - 1) (zK_u (a := 50) (x := 8) (v := (J 29 5) + 1) (zK_x (a := 54) (x := J 58 (J 29 5)) (v := J 60 (J 29 5)) (zK_u (a := 29) (x := 5) (v := (J 29 5) + 1) (zK_x (a := 9) (x := (J 30 (J 29 5)) * 5 + (J 31 (J 29 5))) (v := J 33 (J 29 5)) (zK_r (k := (kL [9, 54] [])) (A := J)) rfl)) rfl)))
                    have hC2 := RelC_k hs2 (by repeat' constructor) (fun p => by repeat' constructor) (RelC_redo hC (by omega))
                    have hk := (zK_x (a := 50) (x := 9) (v := (J 50 9) - 1) (zK_x (a := 50) (x := 8) (v := (J 29 5) + 1) (zK_x (a := 54) (x := J 58 (J 29 5)) (v := J 60 (J 29 5)) (zK_x (a := 29) (x := 5) (v := (J 29 5) + 1) (zK_x (a := 9) (x := (J 30 (J 29 5)) * 5 + (J 31 (J 29 5))) (v := J 33 (J 29 5)) (zK_r (k := (kL [9, 54] [(29, 5), (50, 8), (50, 9)])) (A := J)) rfl) rfl) rfl) rfl) rfl)
                    exact ⟨hR, hG, hY2, RelD_k hk (by repeat' constructor) (fun p => by repeat' constructor) hD, RelP_k hk (by repeat' constructor) (fun p => by repeat' constructor) hP, hC2, RelA_k hk (by repeat' constructor) (fun p => by repeat' constructor) hAc, RelS_k hk (zK_r (k := kM)) (fun x j a b => ⟨kL_38 (by decide) (by decide) x j a b, kM_38 x j a b⟩) (fun p => ⟨rfl, rfl, rfl⟩) rfl hS, RelT_k hk (by repeat' constructor) (fun p => by repeat' constructor) hTp, RelX_k hk (by repeat' constructor) (fun p => by repeat' constructor) hX, RelW_k hk ⟨rfl, rfl⟩ trivial hW⟩
                · have hxhq9 : J 57 (J 29 5) = 4 := hxhq9
                  refine z_aload rfl rfl ?_
                  refine z_getR (r := 55) rfl rfl (hRr _ rm_50_6 (by decide)) ?_
                  refine z_iload rfl rfl ?_
                  refine z_iload rfl rfl ?_
                  refine z_iast (e := J 60 (J 29 5)) rfl rfl (by decide) (by omega) rfl ?_
                  refine z_goto rfl ?_
                  refine z_vret rfl rfl ?_
                  show zW _ _ _ _ _ _ _ _ _ _
                  refine z_aload rfl rfl ?_
                  refine z_dup rfl rfl ?_
                  refine z_getI (v := J 29 5) rfl rfl ((zU_n (by decide)).trans ((zU_n (by decide)).trans ((zU_n (by decide)).trans (c1.symm)))) ?_
                  refine z_pushI (z := 1) rfl rfl ?_
                  refine z_iadd (e := (J 29 5) + 1) rfl rfl ?_
                  refine z_putI (y := 8) rfl rfl rfl ?_
                  refine z_aload rfl rfl ?_
                  refine z_dup rfl rfl ?_
                  refine z_getI (v := J 50 9) rfl rfl ((zU_x (by decide)).trans ((zU_n (by decide)).trans ((zU_n (by decide)).trans ((zU_n (by decide)).trans (rfl))))) ?_
                  refine z_pushI (z := 1) rfl rfl ?_
                  refine z_isub (e := (J 50 9) - 1) rfl rfl ?_
                  refine z_putI (y := 9) rfl rfl rfl ?_
                  refine z_aload rfl rfl ?_
                  refine z_getI (v := (J 50 9) - 1) rfl rfl (zU_e) ?_
                  refine z_iret rfl rfl ?_
                  refine ⟨?_, ?_⟩
                  · first | rfl | exact congrArg (fun v => some (zi v)) (by omega) | (exfalso; omega)
                  · have hs := (zK_x (a := 50) (x := 9) (v := (J 50 9) - 1) (zK_x (a := 50) (x := 8) (v := (J 29 5) + 1) (zK_u (a := 55) (x := J 58 (J 29 5)) (v := J 60 (J 29 5)) (zK_x (a := 29) (x := 5) (v := (J 29 5) + 1) (zK_u (a := 9) (x := (J 30 (J 29 5)) * 5 + (J 31 (J 29 5))) (v := J 33 (J 29 5)) (zK_r (k := (kL [] [(29, 5), (50, 8), (50, 9)])) (A := J))) rfl)) rfl) rfl)
                    have ev : J 60 (J 29 5) = J 33 (J 29 5) := by omega
                    have hY2 := RelY_k hs (by repeat' constructor) (fun p => by repeat' constructor) (by rw [ev]; exact RelY_p (p := J 30 (J 29 5)) (w := 4) hY (by omega) (by omega) (zFit_c hfit (by omega)) (by omega) rfl (by omega))
                    have hs2 := (zK_u (a := 50) (x := 9) (v := (J 50 9) - 1) (zK_u (a := 50) (x := 8) (v := (J 29 5) + 1) (zK_x (a := 55) (x := J 58 (J 29 5)) (v := J 60 (J 29 5)) (zK_u (a := 29) (x := 5) (v := (J 29 5) + 1) (zK_x (a := 9) (x := (J 30 (J 29 5)) * 5 + (J 31 (J 29 5))) (v := J 33 (J 29 5)) (zK_r (k := (kL [9, 55] [])) (A := J)) rfl)) rfl)))
                    have hC2 := RelC_k hs2 (by repeat' constructor) (fun p => by repeat' constructor) (RelC_redo hC (by omega))
                    have hk := (zK_x (a := 50) (x := 9) (v := (J 50 9) - 1) (zK_x (a := 50) (x := 8) (v := (J 29 5) + 1) (zK_x (a := 55) (x := J 58 (J 29 5)) (v := J 60 (J 29 5)) (zK_x (a := 29) (x := 5) (v := (J 29 5) + 1) (zK_x (a := 9) (x := (J 30 (J 29 5)) * 5 + (J 31 (J 29 5))) (v := J 33 (J 29 5)) (zK_r (k := (kL [9, 55] [(29, 5), (50, 8), (50, 9)])) (A := J)) rfl) rfl) rfl) rfl) rfl)
                    exact ⟨hR, hG, hY2, RelD_k hk (by repeat' constructor) (fun p => by repeat' constructor) hD, RelP_k hk (by repeat' constructor) (fun p => by repeat' constructor) hP, hC2, RelA_k hk (by repeat' constructor) (fun p => by repeat' constructor) hAc, RelS_k hk (zK_r (k := kM)) (fun x j a b => ⟨kL_38 (by decide) (by decide) x j a b, kM_38 x j a b⟩) (fun p => ⟨rfl, rfl, rfl⟩) rfl hS, RelT_k hk (by repeat' constructor) (fun p => by repeat' constructor) hTp, RelX_k hk (by repeat' constructor) (fun p => by repeat' constructor) hX, RelW_k hk ⟨rfl, rfl⟩ trivial hW⟩
              · have hq9 : ∀ q ∈ [((0 : Int), 36), ((1 : Int), 46), ((2 : Int), 56), ((3 : Int), 66), ((4 : Int), 76)], ¬ J 57 (J 29 5) = q.1 := hq9
                have hq9_0 : ¬ J 57 (J 29 5) = 0 := hq9 (0, 36) (by simp)
                have hq9_1 : ¬ J 57 (J 29 5) = 1 := hq9 (1, 46) (by simp)
                have hq9_2 : ¬ J 57 (J 29 5) = 2 := hq9 (2, 56) (by simp)
                have hq9_3 : ¬ J 57 (J 29 5) = 3 := hq9 (3, 66) (by simp)
                have hq9_4 : ¬ J 57 (J 29 5) = 4 := hq9 (4, 76) (by simp)
                refine z_aload rfl rfl ?_
                refine z_getR (r := 56) rfl rfl (hRr _ rm_50_7 (by decide)) ?_
                refine z_iload rfl rfl ?_
                refine z_pushI (z := 5) rfl rfl ?_
                refine z_isub (e := (J 57 (J 29 5)) - 5) rfl rfl ?_
                refine z_iload rfl rfl ?_
                refine z_iast (e := J 60 (J 29 5)) rfl rfl (by decide) (by omega) rfl ?_
                refine z_vret rfl rfl ?_
                show zW _ _ _ _ _ _ _ _ _ _
                refine z_aload rfl rfl ?_
                refine z_dup rfl rfl ?_
                refine z_getI (v := J 29 5) rfl rfl ((zU_n (by decide)).trans ((zU_n (by decide)).trans ((zU_n (by decide)).trans (c1.symm)))) ?_
                refine z_pushI (z := 1) rfl rfl ?_
                refine z_iadd (e := (J 29 5) + 1) rfl rfl ?_
                refine z_putI (y := 8) rfl rfl rfl ?_
                refine z_aload rfl rfl ?_
                refine z_dup rfl rfl ?_
                refine z_getI (v := J 50 9) rfl rfl ((zU_x (by decide)).trans ((zU_n (by decide)).trans ((zU_n (by decide)).trans ((zU_n (by decide)).trans (rfl))))) ?_
                refine z_pushI (z := 1) rfl rfl ?_
                refine z_isub (e := (J 50 9) - 1) rfl rfl ?_
                refine z_putI (y := 9) rfl rfl rfl ?_
                refine z_aload rfl rfl ?_
                refine z_getI (v := (J 50 9) - 1) rfl rfl (zU_e) ?_
                refine z_iret rfl rfl ?_
                refine ⟨?_, ?_⟩
                · first | rfl | exact congrArg (fun v => some (zi v)) (by omega) | (exfalso; omega)
                · have hs := (zK_x (a := 50) (x := 9) (v := (J 50 9) - 1) (zK_x (a := 50) (x := 8) (v := (J 29 5) + 1) (zK_u (a := 56) (x := (J 57 (J 29 5)) - 5) (v := J 60 (J 29 5)) (zK_x (a := 29) (x := 5) (v := (J 29 5) + 1) (zK_u (a := 9) (x := (J 30 (J 29 5)) * 5 + (J 31 (J 29 5))) (v := J 33 (J 29 5)) (zK_r (k := (kL [] [(29, 5), (50, 8), (50, 9)])) (A := J))) rfl)) rfl) rfl)
                  have ev : J 60 (J 29 5) = J 33 (J 29 5) := by omega
                  have hY2 := RelY_k hs (by repeat' constructor) (fun p => by repeat' constructor) (by rw [ev]; exact RelY_g (w := J 31 (J 29 5)) hY (by omega) hfit (by omega) (by omega))
                  have hs2 := (zK_u (a := 50) (x := 9) (v := (J 50 9) - 1) (zK_u (a := 50) (x := 8) (v := (J 29 5) + 1) (zK_x (a := 56) (x := (J 57 (J 29 5)) - 5) (v := J 60 (J 29 5)) (zK_u (a := 29) (x := 5) (v := (J 29 5) + 1) (zK_x (a := 9) (x := (J 30 (J 29 5)) * 5 + (J 31 (J 29 5))) (v := J 33 (J 29 5)) (zK_r (k := (kL [9, 56] [])) (A := J)) rfl)) rfl)))
                  have hC2 := RelC_k hs2 (by repeat' constructor) (fun p => by repeat' constructor) (RelC_redo hC (by omega))
                  have hk := (zK_x (a := 50) (x := 9) (v := (J 50 9) - 1) (zK_x (a := 50) (x := 8) (v := (J 29 5) + 1) (zK_x (a := 56) (x := (J 57 (J 29 5)) - 5) (v := J 60 (J 29 5)) (zK_x (a := 29) (x := 5) (v := (J 29 5) + 1) (zK_x (a := 9) (x := (J 30 (J 29 5)) * 5 + (J 31 (J 29 5))) (v := J 33 (J 29 5)) (zK_r (k := (kL [9, 56] [(29, 5), (50, 8), (50, 9)])) (A := J)) rfl) rfl) rfl) rfl) rfl)
                  exact ⟨hR, hG, hY2, RelD_k hk (by repeat' constructor) (fun p => by repeat' constructor) hD, RelP_k hk (by repeat' constructor) (fun p => by repeat' constructor) hP, hC2, RelA_k hk (by repeat' constructor) (fun p => by repeat' constructor) hAc, RelS_k hk (zK_r (k := kM)) (fun x j a b => ⟨kL_38 (by decide) (by decide) x j a b, kM_38 x j a b⟩) (fun p => ⟨rfl, rfl, rfl⟩) rfl hS, RelT_k hk (by repeat' constructor) (fun p => by repeat' constructor) hTp, RelX_k hk (by repeat' constructor) (fun p => by repeat' constructor) hX, RelW_k hk ⟨rfl, rfl⟩ trivial hW⟩
    · refine z_pushI (z := (-1)) rfl rfl ?_
      refine z_iret rfl rfl ?_
      show zW _ _ _ _ _ _ _ _ _ _
      refine z_istore rfl rfl ?_
      refine z_iload rfl rfl ?_
      refine z_if_ltT rfl (by decide) (by decide) ?_
      refine z_vret rfl rfl ?_
      show zW _ _ _ _ _ _ _ _ _ _
      refine z_aload rfl rfl ?_
      refine z_dup rfl rfl ?_
      refine z_getI (v := J 29 5) rfl rfl (rfl) ?_
      refine z_pushI (z := 1) rfl rfl ?_
      refine z_iadd (e := (J 29 5) + 1) rfl rfl ?_
      refine z_putI (y := 5) rfl rfl rfl ?_
      refine z_pushI (z := 1) rfl rfl ?_
      refine z_bret rfl rfl (by decide) ?_
      show zW _ _ _ _ _ _ _ _ _ _
      refine z_if_eqF rfl (by decide) (by decide) ?_
      refine z_aload rfl rfl ?_
      refine z_getR (r := 29) rfl rfl (hR _ rm_0_9) ?_
      refine z_getI (v := J 29 6) rfl rfl ((zU_x (by decide)).trans (rfl)) ?_
      refine z_aload rfl rfl ?_
      refine z_getR (r := 29) rfl rfl (hR _ rm_0_9) ?_
      refine z_getI (v := (J 29 5) + 1) rfl rfl (zU_e) ?_
      refine z_isub (e := (J 29 6) - ((J 29 5) + 1)) rfl rfl ?_
      refine z_goto rfl ?_
      refine z_iret rfl rfl ?_
      refine ⟨_, rfl, ?_⟩
      show zW _ _ _ _ [some (.ref 50)] _ _ _ _ _
      refine z_aload rfl rfl ?_
      refine z_getI (v := J 50 9) rfl rfl ((zU_n (by decide)).trans (rfl)) ?_
      refine z_if_neT rfl (by omega) (by omega) ?_
      refine z_aload rfl rfl ?_
      refine z_aload rfl rfl ?_
      refine z_getR (r := 57) rfl rfl (hRr _ rm_50_10 (by decide)) ?_
      refine z_aload rfl rfl ?_
      refine z_getI (v := J 29 5) rfl rfl ((zU_n (by decide)).trans (c1.symm)) ?_
      refine z_iald (v := J 57 (J 29 5)) rfl rfl (by decide) (by omega) ((zU_n (by decide)).trans (rfl)) ?_
      refine z_aload rfl rfl ?_
      refine z_getR (r := 58) rfl rfl (hRr _ rm_50_11 (by decide)) ?_
      refine z_aload rfl rfl ?_
      refine z_getI (v := J 29 5) rfl rfl ((zU_n (by decide)).trans (c1.symm)) ?_
      refine z_iald (v := J 58 (J 29 5)) rfl rfl (by decide) (by omega) ((zU_n (by decide)).trans (rfl)) ?_
      refine z_aload rfl rfl ?_
      refine z_getR (r := 60) rfl rfl (hRr _ rm_50_13 (by decide)) ?_
      refine z_aload rfl rfl ?_
      refine z_getI (v := J 29 5) rfl rfl ((zU_n (by decide)).trans (c1.symm)) ?_
      refine z_iald (v := J 60 (J 29 5)) rfl rfl (by decide) (by omega) ((zU_n (by decide)).trans (rfl)) ?_
      refine z_callVi (As := [_, _, _]) (le := [some _, some _, some _, some _]) rfl rfl rfl (Nat.le_of_ble_eq_true rfl) (Nat.le_of_ble_eq_true rfl) rfl ?_
      refine z_iload rfl rfl ?_
      refine z_sw (T := [((0 : Int), 36), ((1 : Int), 46), ((2 : Int), 56), ((3 : Int), 66), ((4 : Int), 76)]) rfl (by omega) rfl (fun q hq9 hxhq9 => ?_) (fun hq9 => ?_)
      · simp only [List.mem_cons, List.not_mem_nil, or_false] at hq9
        rcases hq9 with rfl | rfl | rfl | rfl | rfl
        · have hxhq9 : J 57 (J 29 5) = 0 := hxhq9
          refine z_aload rfl rfl ?_
          refine z_getR (r := 51) rfl rfl (hRr _ rm_50_2 (by decide)) ?_
          refine z_iload rfl rfl ?_
          refine z_iload rfl rfl ?_
          refine z_iast (e := J 60 (J 29 5)) rfl rfl (by decide) (by omega) rfl ?_
          refine z_goto rfl ?_
          refine z_vret rfl rfl ?_
          show zW _ _ _ _ _ _ _ _ _ _
          refine z_aload rfl rfl ?_
          refine z_dup rfl rfl ?_
          refine z_getI (v := J 29 5) rfl rfl ((zU_n (by decide)).trans ((zU_n (by decide)).trans (c1.symm))) ?_
          refine z_pushI (z := 1) rfl rfl ?_
          refine z_iadd (e := (J 29 5) + 1) rfl rfl ?_
          refine z_putI (y := 8) rfl rfl rfl ?_
          refine z_aload rfl rfl ?_
          refine z_dup rfl rfl ?_
          refine z_getI (v := J 50 9) rfl rfl ((zU_x (by decide)).trans ((zU_n (by decide)).trans ((zU_n (by decide)).trans (rfl)))) ?_
          refine z_pushI (z := 1) rfl rfl ?_
          refine z_isub (e := (J 50 9) - 1) rfl rfl ?_
          refine z_putI (y := 9) rfl rfl rfl ?_
          refine z_aload rfl rfl ?_
          refine z_getI (v := (J 50 9) - 1) rfl rfl (zU_e) ?_
          refine z_iret rfl rfl ?_
          refine ⟨?_, ?_⟩
          · first | rfl | exact congrArg (fun v => some (zi v)) (by omega) | (exfalso; omega)
          · exfalso
            omega
        · have hxhq9 : J 57 (J 29 5) = 1 := hxhq9
          refine z_aload rfl rfl ?_
          refine z_getR (r := 52) rfl rfl (hRr _ rm_50_3 (by decide)) ?_
          refine z_iload rfl rfl ?_
          refine z_iload rfl rfl ?_
          refine z_iast (e := J 60 (J 29 5)) rfl rfl (by decide) (by omega) rfl ?_
          refine z_goto rfl ?_
          refine z_vret rfl rfl ?_
          show zW _ _ _ _ _ _ _ _ _ _
          refine z_aload rfl rfl ?_
          refine z_dup rfl rfl ?_
          refine z_getI (v := J 29 5) rfl rfl ((zU_n (by decide)).trans ((zU_n (by decide)).trans (c1.symm))) ?_
          refine z_pushI (z := 1) rfl rfl ?_
          refine z_iadd (e := (J 29 5) + 1) rfl rfl ?_
          refine z_putI (y := 8) rfl rfl rfl ?_
          refine z_aload rfl rfl ?_
          refine z_dup rfl rfl ?_
          refine z_getI (v := J 50 9) rfl rfl ((zU_x (by decide)).trans ((zU_n (by decide)).trans ((zU_n (by decide)).trans (rfl)))) ?_
          refine z_pushI (z := 1) rfl rfl ?_
          refine z_isub (e := (J 50 9) - 1) rfl rfl ?_
          refine z_putI (y := 9) rfl rfl rfl ?_
          refine z_aload rfl rfl ?_
          refine z_getI (v := (J 50 9) - 1) rfl rfl (zU_e) ?_
          refine z_iret rfl rfl ?_
          refine ⟨?_, ?_⟩
          · first | rfl | exact congrArg (fun v => some (zi v)) (by omega) | (exfalso; omega)
          · exfalso
            omega
        · have hxhq9 : J 57 (J 29 5) = 2 := hxhq9
          refine z_aload rfl rfl ?_
          refine z_getR (r := 53) rfl rfl (hRr _ rm_50_4 (by decide)) ?_
          refine z_iload rfl rfl ?_
          refine z_iload rfl rfl ?_
          refine z_iast (e := J 60 (J 29 5)) rfl rfl (by decide) (by omega) rfl ?_
          refine z_goto rfl ?_
          refine z_vret rfl rfl ?_
          show zW _ _ _ _ _ _ _ _ _ _
          refine z_aload rfl rfl ?_
          refine z_dup rfl rfl ?_
          refine z_getI (v := J 29 5) rfl rfl ((zU_n (by decide)).trans ((zU_n (by decide)).trans (c1.symm))) ?_
          refine z_pushI (z := 1) rfl rfl ?_
          refine z_iadd (e := (J 29 5) + 1) rfl rfl ?_
          refine z_putI (y := 8) rfl rfl rfl ?_
          refine z_aload rfl rfl ?_
          refine z_dup rfl rfl ?_
          refine z_getI (v := J 50 9) rfl rfl ((zU_x (by decide)).trans ((zU_n (by decide)).trans ((zU_n (by decide)).trans (rfl)))) ?_
          refine z_pushI (z := 1) rfl rfl ?_
          refine z_isub (e := (J 50 9) - 1) rfl rfl ?_
          refine z_putI (y := 9) rfl rfl rfl ?_
          refine z_aload rfl rfl ?_
          refine z_getI (v := (J 50 9) - 1) rfl rfl (zU_e) ?_
          refine z_iret rfl rfl ?_
          refine ⟨?_, ?_⟩
          · first | rfl | exact congrArg (fun v => some (zi v)) (by omega) | (exfalso; omega)
          · exfalso
            omega
        · have hxhq9 : J 57 (J 29 5) = 3 := hxhq9
          refine z_aload rfl rfl ?_
          refine z_getR (r := 54) rfl rfl (hRr _ rm_50_5 (by decide)) ?_
          refine z_iload rfl rfl ?_
          refine z_iload rfl rfl ?_
          refine z_iast (e := J 60 (J 29 5)) rfl rfl (by decide) (by omega) rfl ?_
          refine z_goto rfl ?_
          refine z_vret rfl rfl ?_
          show zW _ _ _ _ _ _ _ _ _ _
          refine z_aload rfl rfl ?_
          refine z_dup rfl rfl ?_
          refine z_getI (v := J 29 5) rfl rfl ((zU_n (by decide)).trans ((zU_n (by decide)).trans (c1.symm))) ?_
          refine z_pushI (z := 1) rfl rfl ?_
          refine z_iadd (e := (J 29 5) + 1) rfl rfl ?_
          refine z_putI (y := 8) rfl rfl rfl ?_
          refine z_aload rfl rfl ?_
          refine z_dup rfl rfl ?_
          refine z_getI (v := J 50 9) rfl rfl ((zU_x (by decide)).trans ((zU_n (by decide)).trans ((zU_n (by decide)).trans (rfl)))) ?_
          refine z_pushI (z := 1) rfl rfl ?_
          refine z_isub (e := (J 50 9) - 1) rfl rfl ?_
          refine z_putI (y := 9) rfl rfl rfl ?_
          refine z_aload rfl rfl ?_
          refine z_getI (v := (J 50 9) - 1) rfl rfl (zU_e) ?_
          refine z_iret rfl rfl ?_
          refine ⟨?_, ?_⟩
          · first | rfl | exact congrArg (fun v => some (zi v)) (by omega) | (exfalso; omega)
          · exfalso
            omega
        · have hxhq9 : J 57 (J 29 5) = 4 := hxhq9
          refine z_aload rfl rfl ?_
          refine z_getR (r := 55) rfl rfl (hRr _ rm_50_6 (by decide)) ?_
          refine z_iload rfl rfl ?_
          refine z_iload rfl rfl ?_
          refine z_iast (e := J 60 (J 29 5)) rfl rfl (by decide) (by omega) rfl ?_
          refine z_goto rfl ?_
          refine z_vret rfl rfl ?_
          show zW _ _ _ _ _ _ _ _ _ _
          refine z_aload rfl rfl ?_
          refine z_dup rfl rfl ?_
          refine z_getI (v := J 29 5) rfl rfl ((zU_n (by decide)).trans ((zU_n (by decide)).trans (c1.symm))) ?_
          refine z_pushI (z := 1) rfl rfl ?_
          refine z_iadd (e := (J 29 5) + 1) rfl rfl ?_
          refine z_putI (y := 8) rfl rfl rfl ?_
          refine z_aload rfl rfl ?_
          refine z_dup rfl rfl ?_
          refine z_getI (v := J 50 9) rfl rfl ((zU_x (by decide)).trans ((zU_n (by decide)).trans ((zU_n (by decide)).trans (rfl)))) ?_
          refine z_pushI (z := 1) rfl rfl ?_
          refine z_isub (e := (J 50 9) - 1) rfl rfl ?_
          refine z_putI (y := 9) rfl rfl rfl ?_
          refine z_aload rfl rfl ?_
          refine z_getI (v := (J 50 9) - 1) rfl rfl (zU_e) ?_
          refine z_iret rfl rfl ?_
          refine ⟨?_, ?_⟩
          · first | rfl | exact congrArg (fun v => some (zi v)) (by omega) | (exfalso; omega)
          · exfalso
            omega
      · have hq9 : ∀ q ∈ [((0 : Int), 36), ((1 : Int), 46), ((2 : Int), 56), ((3 : Int), 66), ((4 : Int), 76)], ¬ J 57 (J 29 5) = q.1 := hq9
        have hq9_0 : ¬ J 57 (J 29 5) = 0 := hq9 (0, 36) (by simp)
        have hq9_1 : ¬ J 57 (J 29 5) = 1 := hq9 (1, 46) (by simp)
        have hq9_2 : ¬ J 57 (J 29 5) = 2 := hq9 (2, 56) (by simp)
        have hq9_3 : ¬ J 57 (J 29 5) = 3 := hq9 (3, 66) (by simp)
        have hq9_4 : ¬ J 57 (J 29 5) = 4 := hq9 (4, 76) (by simp)
        refine z_aload rfl rfl ?_
        refine z_getR (r := 56) rfl rfl (hRr _ rm_50_7 (by decide)) ?_
        refine z_iload rfl rfl ?_
        refine z_pushI (z := 5) rfl rfl ?_
        refine z_isub (e := (J 57 (J 29 5)) - 5) rfl rfl ?_
        refine z_iload rfl rfl ?_
        refine z_iast (e := J 60 (J 29 5)) rfl rfl (by decide) (by omega) rfl ?_
        refine z_vret rfl rfl ?_
        show zW _ _ _ _ _ _ _ _ _ _
        refine z_aload rfl rfl ?_
        refine z_dup rfl rfl ?_
        refine z_getI (v := J 29 5) rfl rfl ((zU_n (by decide)).trans ((zU_n (by decide)).trans (c1.symm))) ?_
        refine z_pushI (z := 1) rfl rfl ?_
        refine z_iadd (e := (J 29 5) + 1) rfl rfl ?_
        refine z_putI (y := 8) rfl rfl rfl ?_
        refine z_aload rfl rfl ?_
        refine z_dup rfl rfl ?_
        refine z_getI (v := J 50 9) rfl rfl ((zU_x (by decide)).trans ((zU_n (by decide)).trans ((zU_n (by decide)).trans (rfl)))) ?_
        refine z_pushI (z := 1) rfl rfl ?_
        refine z_isub (e := (J 50 9) - 1) rfl rfl ?_
        refine z_putI (y := 9) rfl rfl rfl ?_
        refine z_aload rfl rfl ?_
        refine z_getI (v := (J 50 9) - 1) rfl rfl (zU_e) ?_
        refine z_iret rfl rfl ?_
        refine ⟨?_, ?_⟩
        · first | rfl | exact congrArg (fun v => some (zi v)) (by omega) | (exfalso; omega)
        · exfalso
          omega
theorem st_redo {X : Nat × (Nat → Int32)} {d : Nat} {J M : zA} {R : zR} (hr : Rel X J M R) : zW X (d + 20) 132 0 (gEn 132 [.ref 0]) [] J M R (stP X (d + 20) 159 []) := by
  by_cases h0 : J 29 6 ≤ J 29 5
  · exact st_redo_0 hr h0
  · exact st_redo_1 hr h0
