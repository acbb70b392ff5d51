theorem zC_sh {J : zA} {a : Nat} {n y : Int} (h : 0 ≤ y ∧ y < n) : zC J a a 1 0 n a y = J a (y + 1) := by
  unfold zC
  rw [if_pos rfl, if_pos (by omega), show (1 : Int) + (y - 0) = y + 1 by omega]
theorem zC_so {J : zA} {a : Nat} {n y : Int} (h : ¬ (0 ≤ y ∧ y < n)) : zC J a a 1 0 n a y = J a y := by
  unfold zC
  rw [if_pos rfl, if_neg (by omega)]
theorem zC_s0 {J : zA} {a : Nat} : zC J a a 1 0 0 = J := by
  funext x y
  unfold zC
  split
  · rename_i h
    rw [if_neg (by omega), h]
  · rfl
theorem zC_ss {J : zA} {a : Nat} {i : Int} (hi : 0 ≤ i) : zU (zC J a a 1 0 i) a i (J a (i + 1)) = zC J a a 1 0 (i + 1) := by
  funext x y
  unfold zU zC
  by_cases h : x = a
  · rw [if_pos h, if_pos h, if_pos h]
    by_cases e : y = i
    · rw [if_pos e, if_pos (by omega), e, show (1 : Int) + (i - 0) = i + 1 by omega]
    · rw [if_neg e]
      by_cases c : 0 ≤ y ∧ y < 0 + i
      · rw [if_pos c, if_pos (by omega)]
      · rw [if_neg c, if_neg (by omega)]
  · rw [if_neg h, if_neg h, if_neg h]
theorem zC4_0 {J : zA} : (zC (zC (zC (zC J 57 57 1 0 0) 58 58 1 0 0) 59 59 1 0 0) 60 60 1 0 0) = J := by rw [zC_s0, zC_s0, zC_s0, zC_s0]
theorem zC4_s {J : zA} {i : Int} (hi : 0 ≤ i) : zU (zU (zU (zU (zC (zC (zC (zC J 57 57 1 0 i) 58 58 1 0 i) 59 59 1 0 i) 60 60 1 0 i) 57 i (J 57 (i + 1))) 58 i (J 58 (i + 1))) 59 i (J 59 (i + 1))) 60 i (J 60 (i + 1)) = (zC (zC (zC (zC J 57 57 1 0 (i + 1)) 58 58 1 0 (i + 1)) 59 59 1 0 (i + 1)) 60 60 1 0 (i + 1)) := by
  have e60 : J 60 (i + 1) = (zC (zC (zC J 57 57 1 0 (i + 1)) 58 58 1 0 (i + 1)) 59 59 1 0 (i + 1)) 60 (i + 1) := ((zC_n (by decide)).trans ((zC_n (by decide)).trans (zC_n (by decide)))).symm
  have e59 : J 59 (i + 1) = (zC (zC J 57 57 1 0 (i + 1)) 58 58 1 0 (i + 1)) 59 (i + 1) := ((zC_n (by decide)).trans (zC_n (by decide))).symm
  have e58 : J 58 (i + 1) = (zC J 57 57 1 0 (i + 1)) 58 (i + 1) := (zC_n (by decide)).symm
  rw [zU_C (a := 60) (by decide) (by decide), zU_C (a := 59) (by decide) (by decide), zU_C (a := 58) (by decide) (by decide), zC_ss hi, e58, zU_C (a := 60) (by decide) (by decide), zU_C (a := 59) (by decide) (by decide), zC_ss hi, e59, zU_C (a := 60) (by decide) (by decide), zC_ss hi, e60, zC_ss hi]
theorem zC4_in {X : Nat × (Nat → Int32)} {d k pc : Nat} {ls : List (Option Value)} {st : List Value} {J M : zA} {R : zR} {P : zP} (h : zW X d k pc ls st (zC (zC (zC (zC J 57 57 1 0 0) 58 58 1 0 0) 59 59 1 0 0) 60 60 1 0 0) M R P) : zW X d k pc ls st J M R P := by
  rw [zC4_0] at h
  exact h
theorem shift40_z {X : Nat × (Nat → Int32)} {d : Nat} {J M : zA} {R : zR} {P : zP} {w p v t : Int} (hR : zRoR R) : ∀ (j : Nat) (i : Int), i + j = 39 → 0 ≤ i → zW X d 157 111 [some (.ref 50), some (zi w), some (zi p), some (zi v), some (zi t), some (zi 40)] [] (zC (zC (zC (zC J 57 57 1 0 39) 58 58 1 0 39) 59 59 1 0 39) 60 60 1 0 39) M R P → zW X d 157 34 [some (.ref 50), some (zi w), some (zi p), some (zi v), some (zi t), some (zi (i + 1))] [] (zC (zC (zC (zC J 57 57 1 0 i) 58 58 1 0 i) 59 59 1 0 i) 60 60 1 0 i) M R P := by
  intro j
  induction j with
  | zero =>
    intro i hi h0 K
    obtain rfl : i = 39 := by omega
    refine z_iload rfl rfl ?_
    refine z_pushI (z := 40) rfl rfl ?_
    exact z_icmp_geT rfl (by omega) (by omega) (by omega) K
  | succ j ih =>
    intro i hi h0 K
    refine z_iload rfl rfl ?_
    refine z_pushI (z := 40) rfl rfl ?_
    refine z_icmp_geF rfl (by omega) (by decide) (by omega) ?_
    refine z_aload rfl rfl ?_
    refine z_getR (r := 57) rfl rfl (hR _ rm_50_10 (by decide)) ?_
    refine z_iload rfl rfl ?_
    refine z_pushI (z := 1) rfl rfl ?_
    refine z_isub (e := i + 1 - 1) rfl rfl ?_
    refine z_aload rfl rfl ?_
    refine z_getR (r := 57) rfl rfl (hR _ rm_50_10 (by decide)) ?_
    refine z_iload rfl rfl ?_
    refine z_iald (v := J 57 (i + 1)) rfl rfl (by decide) (by omega) ((zC_n (by decide)).trans ((zC_n (by decide)).trans ((zC_n (by decide)).trans (zC_so (by omega))))) ?_
    refine z_iast (e := J 57 (i + 1)) rfl rfl (by decide) (by omega) rfl ?_
    refine z_aload rfl rfl ?_
    refine z_getR (r := 58) rfl rfl (hR _ rm_50_11 (by decide)) ?_
    refine z_iload rfl rfl ?_
    refine z_pushI (z := 1) rfl rfl ?_
    refine z_isub (e := i + 1 - 1) rfl rfl ?_
    refine z_aload rfl rfl ?_
    refine z_getR (r := 58) rfl rfl (hR _ rm_50_11 (by decide)) ?_
    refine z_iload rfl rfl ?_
    refine z_iald (v := J 58 (i + 1)) rfl rfl (by decide) (by omega) ((zU_n (by decide)).trans ((zC_n (by decide)).trans ((zC_n (by decide)).trans ((zC_so (by omega)).trans (zC_n (by decide)))))) ?_
    refine z_iast (e := J 58 (i + 1)) rfl rfl (by decide) (by omega) rfl ?_
    refine z_aload rfl rfl ?_
    refine z_getR (r := 59) rfl rfl (hR _ rm_50_12 (by decide)) ?_
    refine z_iload rfl rfl ?_
    refine z_pushI (z := 1) rfl rfl ?_
    refine z_isub (e := i + 1 - 1) rfl rfl ?_
    refine z_aload rfl rfl ?_
    refine z_getR (r := 59) rfl rfl (hR _ rm_50_12 (by decide)) ?_
    refine z_iload rfl rfl ?_
    refine z_iald (v := J 59 (i + 1)) rfl rfl (by decide) (by omega) ((zU_n (by decide)).trans ((zU_n (by decide)).trans ((zC_n (by decide)).trans ((zC_so (by omega)).trans ((zC_n (by decide)).trans (zC_n (by decide))))))) ?_
    refine z_iast (e := J 59 (i + 1)) rfl rfl (by decide) (by omega) rfl ?_
    refine z_aload rfl rfl ?_
    refine z_getR (r := 60) rfl rfl (hR _ rm_50_13 (by decide)) ?_
    refine z_iload rfl rfl ?_
    refine z_pushI (z := 1) rfl rfl ?_
    refine z_isub (e := i + 1 - 1) rfl rfl ?_
    refine z_aload rfl rfl ?_
    refine z_getR (r := 60) rfl rfl (hR _ rm_50_13 (by decide)) ?_
    refine z_iload rfl rfl ?_
    refine z_iald (v := J 60 (i + 1)) rfl rfl (by decide) (by omega) ((zU_n (by decide)).trans ((zU_n (by decide)).trans ((zU_n (by decide)).trans ((zC_so (by omega)).trans ((zC_n (by decide)).trans ((zC_n (by decide)).trans (zC_n (by decide)))))))) ?_
    refine z_iast (e := J 60 (i + 1)) rfl rfl (by decide) (by omega) rfl ?_
    refine z_iinc (c := 1) (e := i + 1 + 1) rfl rfl rfl rfl rfl ?_
    refine z_goto rfl ?_
    show zW _ _ _ _ [some (.ref 50), some (zi w), some (zi p), some (zi v), some (zi t), some (zi (i + 1 + 1))] [] _ _ _ _
    rw [show i + 1 - 1 = i by omega, zC4_s h0]
    exact ih (i + 1) (by omega) (by omega) K
theorem st_mend4_p0 {X : Nat × (Nat → Int32)} {d : Nat} {J M : zA} {R : zR} {p v : Int} (hr : Rel X J M R) (hp : -2147483648 ≤ p ∧ p < 2147483648) (hv : -2147483648 ≤ v ∧ v < 2147483648) (hV : zV (J 8 2) p (0)) (hf : zT 2 (0) ≤ v ∧ v ≤ zT 3 (0)) (he : ¬ (cN J) p (0) = v) (h40 : J 29 5 = 40) : zW X (d + 20) 104 0 (gEn 104 [(.ref 0), (zi p), (zi 0), (zi v)]) [] J M R (stP X (d + 20) 162 [(zi p), (zi 0), (zi v)]) := by
  have hr0 := hr
  obtain ⟨hR, hG, hY, hD, hP, hC, hAc, hS, hTp, hX, hW⟩ := hr0
  have hRr : zRoR R := zRoR_of hR
  have hY0 := hY
  obtain ⟨y1, y2, y3⟩ := hY0
  have yn := zNn y3
  have hC0 := hC
  obtain ⟨c1, c2, c3, c4, c5, c6⟩ := hC0
  have nr := zN_r y3 hV
  have nf := zN_fit y3 hV
  have hf2 : zFit (0) v := hf
  show zW _ _ _ _ [some (.ref 0), some (zi p), some (zi 0), some (zi v), none] _ _ _ _ _
  refine z_aload rfl rfl ?_
  refine z_getR (r := 8) rfl rfl (hR _ rm_0_1) ?_
  refine z_iload rfl rfl ?_
  refine z_iload rfl rfl ?_
  refine z_callVP (As := [_, _]) (v := 1) rfl rfl rfl (Nat.le_of_ble_eq_true rfl) (Nat.le_of_ble_eq_true rfl) (isNumber_1 hR rfl yn hp (by decide) hV) ?_
  refine z_if_eqF rfl (by decide) (by decide) ?_
  refine z_iload rfl rfl ?_
  refine z_iload rfl rfl ?_
  refine z_callSP (As := [_, _]) (v := 1) rfl rfl (Nat.le_of_ble_eq_true rfl) (Nat.le_of_ble_eq_true rfl) (isFit_1 hv (by decide) (by omega) hf) ?_
  refine z_if_neT rfl (by decide) (by decide) ?_
  refine z_aload rfl rfl ?_
  refine z_getR (r := 8) rfl rfl (hR _ rm_0_1) ?_
  refine z_iload rfl rfl ?_
  refine z_iload rfl rfl ?_
  refine z_callVP (As := [_, _]) (v := (cN J) p (0)) rfl rfl rfl (Nat.le_of_ble_eq_true rfl) (Nat.le_of_ble_eq_true rfl) (told_k hR zK_r rfl rfl y3 hp (by decide)) ?_
  refine z_istore rfl rfl ?_
  refine z_iload rfl rfl ?_
  refine z_iload rfl rfl ?_
  refine z_icmp_eqF rfl (by omega) (by omega) (by omega) ?_
  refine z_aload rfl rfl ?_
  refine z_getR (r := 29) rfl rfl (hR _ rm_0_9) ?_
  refine z_iload rfl rfl ?_
  refine z_iload rfl rfl ?_
  refine z_iload rfl rfl ?_
  refine z_iload rfl rfl ?_
  refine z_callVi (As := [_, _, _, _]) (le := [some _, some _, some _, some _, some _]) rfl rfl rfl (Nat.le_of_ble_eq_true rfl) (Nat.le_of_ble_eq_true rfl) rfl ?_
  refine z_aload rfl rfl ?_
  refine z_getI (v := 40) rfl rfl (h40) ?_
  refine z_pushI (z := 40) rfl rfl ?_
  refine z_icmp_ltF rfl (by decide) (by decide) (by decide) ?_
  refine z_aload rfl rfl ?_
  refine z_callVi (As := []) (le := [some _]) rfl rfl rfl (Nat.le_of_ble_eq_true rfl) (Nat.le_of_ble_eq_true rfl) rfl ?_
  refine z_aload rfl rfl ?_
  refine z_pushI (z := 39) rfl rfl ?_
  refine z_putI (y := 5) rfl rfl rfl ?_
  refine z_aload rfl rfl ?_
  refine z_getR (r := 30) rfl rfl (hR _ rm_29_1) ?_
  refine z_pushI (z := 1) rfl rfl ?_
  refine z_aload rfl rfl ?_
  refine z_getR (r := 30) rfl rfl (hR _ rm_29_1) ?_
  refine z_pushI (z := 0) rfl rfl ?_
  refine z_aload rfl rfl ?_
  refine z_getI (v := 39) rfl rfl (zU_e) ?_
  refine z_copyI rfl rfl rfl (by decide) (by decide) (by decide) (by decide) (by decide) (by decide) (by decide) (by decide) ?_
  refine z_aload rfl rfl ?_
  refine z_getR (r := 31) rfl rfl (hR _ rm_29_2) ?_
  refine z_pushI (z := 1) rfl rfl ?_
  refine z_aload rfl rfl ?_
  refine z_getR (r := 31) rfl rfl (hR _ rm_29_2) ?_
  refine z_pushI (z := 0) rfl rfl ?_
  refine z_aload rfl rfl ?_
  refine z_getI (v := 39) rfl rfl ((zC_n (by decide)).trans (zU_e)) ?_
  refine z_copyI rfl rfl rfl (by decide) (by decide) (by decide) (by decide) (by decide) (by decide) (by decide) (by decide) ?_
  refine z_aload rfl rfl ?_
  refine z_getR (r := 32) rfl rfl (hR _ rm_29_3) ?_
  refine z_pushI (z := 1) rfl rfl ?_
  refine z_aload rfl rfl ?_
  refine z_getR (r := 32) rfl rfl (hR _ rm_29_3) ?_
  refine z_pushI (z := 0) rfl rfl ?_
  refine z_aload rfl rfl ?_
  refine z_getI (v := 39) rfl rfl ((zC_n (by decide)).trans ((zC_n (by decide)).trans (zU_e))) ?_
  refine z_copyI rfl rfl rfl (by decide) (by decide) (by decide) (by decide) (by decide) (by decide) (by decide) (by decide) ?_
  refine z_aload rfl rfl ?_
  refine z_getR (r := 33) rfl rfl (hR _ rm_29_4) ?_
  refine z_pushI (z := 1) rfl rfl ?_
  refine z_aload rfl rfl ?_
  refine z_getR (r := 33) rfl rfl (hR _ rm_29_4) ?_
  refine z_pushI (z := 0) rfl rfl ?_
  refine z_aload rfl rfl ?_
  refine z_getI (v := 39) rfl rfl ((zC_n (by decide)).trans ((zC_n (by decide)).trans ((zC_n (by decide)).trans (zU_e)))) ?_
  refine z_copyI rfl rfl rfl (by decide) (by decide) (by decide) (by decide) (by decide) (by decide) (by decide) (by decide) ?_
  refine z_vret rfl rfl ?_
  show zW _ _ _ _ _ _ _ _ _ _
  refine z_aload rfl rfl ?_
  refine z_getR (r := 30) rfl rfl (hR _ rm_29_1) ?_
  refine z_aload rfl rfl ?_
  refine z_getI (v := 39) rfl rfl ((zC_n (by decide)).trans ((zC_n (by decide)).trans ((zC_n (by decide)).trans ((zC_n (by decide)).trans (zU_e))))) ?_
  refine z_iload rfl rfl ?_
  refine z_iast (e := p) rfl rfl (by decide) (by decide) rfl ?_
  refine z_aload rfl rfl ?_
  refine z_getR (r := 31) rfl rfl (hR _ rm_29_2) ?_
  refine z_aload rfl rfl ?_
  refine z_getI (v := 39) rfl rfl ((zU_n (by decide)).trans ((zC_n (by decide)).trans ((zC_n (by decide)).trans ((zC_n (by decide)).trans ((zC_n (by decide)).trans (zU_e)))))) ?_
  refine z_iload rfl rfl ?_
  refine z_iast (e := 0) rfl rfl (by decide) (by decide) rfl ?_
  refine z_aload rfl rfl ?_
  refine z_getR (r := 32) rfl rfl (hR _ rm_29_3) ?_
  refine z_aload rfl rfl ?_
  refine z_getI (v := 39) rfl rfl ((zU_n (by decide)).trans ((zU_n (by decide)).trans ((zC_n (by decide)).trans ((zC_n (by decide)).trans ((zC_n (by decide)).trans ((zC_n (by decide)).trans (zU_e))))))) ?_
  refine z_iload rfl rfl ?_
  refine z_iast (e := (cN J) p (0)) rfl rfl (by decide) (by decide) rfl ?_
  refine z_aload rfl rfl ?_
  refine z_getR (r := 33) rfl rfl (hR _ rm_29_4) ?_
  refine z_aload rfl rfl ?_
  refine z_getI (v := 39) rfl rfl ((zU_n (by decide)).trans ((zU_n (by decide)).trans ((zU_n (by decide)).trans ((zC_n (by decide)).trans ((zC_n (by decide)).trans ((zC_n (by decide)).trans ((zC_n (by decide)).trans (zU_e)))))))) ?_
  refine z_iload rfl rfl ?_
  refine z_iast (e := v) rfl rfl (by decide) (by decide) rfl ?_
  refine z_aload rfl rfl ?_
  refine z_dup rfl rfl ?_
  refine z_getI (v := 39) rfl rfl ((zU_n (by decide)).trans ((zU_n (by decide)).trans ((zU_n (by decide)).trans ((zU_n (by decide)).trans ((zC_n (by decide)).trans ((zC_n (by decide)).trans ((zC_n (by decide)).trans ((zC_n (by decide)).trans (zU_e))))))))) ?_
  refine z_pushI (z := 1) rfl rfl ?_
  refine z_iadd (e := 40) rfl rfl ?_
  refine z_putI (y := 5) rfl rfl rfl ?_
  refine z_aload rfl rfl ?_
  refine z_aload rfl rfl ?_
  refine z_getI (v := 40) rfl rfl (zU_e) ?_
  refine z_putI (y := 6) rfl rfl rfl ?_
  refine z_vret rfl rfl ?_
  show zW _ _ _ _ _ _ _ _ _ _
  refine z_aload rfl rfl ?_
  refine z_getR (r := 8) rfl rfl (hR _ rm_0_1) ?_
  refine z_iload rfl rfl ?_
  refine z_iload rfl rfl ?_
  refine z_iload rfl rfl ?_
  refine z_callVx (As := [_, _, _]) rfl rfl rfl (Nat.le_of_ble_eq_true rfl) (Nat.le_of_ble_eq_true rfl) (tell_p (n := J 8 2) hR rfl yn hp (by decide) (by omega)) ?_
  show zW _ _ _ _ _ _ _ _ _ _
  refine z_iload rfl rfl ?_
  refine z_iret rfl rfl ?_
  refine ⟨_, rfl, ?_⟩
  show zW _ _ _ _ [some (.ref 50), some (zi p), some (zi 0), some (zi v)] _ _ _ _ _
  refine z_aload rfl rfl ?_
  refine z_iload rfl rfl ?_
  refine z_iload rfl rfl ?_
  refine z_callVP (As := [_, _]) (v := 1) rfl rfl rfl (Nat.le_of_ble_eq_true rfl) (Nat.le_of_ble_eq_true rfl) (isOne_1 hRr y2.symm yn hp (by decide) hV) ?_
  refine z_if_eqF rfl (by decide) (by decide) ?_
  refine z_iload rfl rfl ?_
  refine z_iload rfl rfl ?_
  refine z_callSP (As := [_, _]) (v := 1) rfl rfl (Nat.le_of_ble_eq_true rfl) (Nat.le_of_ble_eq_true rfl) (mayBe_1 hv (by decide) (by omega) hf) ?_
  refine z_if_eqF rfl (by decide) (by decide) ?_
  refine z_aload rfl rfl ?_
  refine z_iload rfl rfl ?_
  refine z_iload rfl rfl ?_
  refine z_iload rfl rfl ?_
  refine z_callVi (As := [_, _, _]) (le := [some _, some _, some _, some _, none, none]) rfl rfl rfl (Nat.le_of_ble_eq_true rfl) (Nat.le_of_ble_eq_true rfl) rfl ?_
  refine z_aload rfl rfl ?_
  refine z_iload rfl rfl ?_
  refine z_iload rfl rfl ?_
  refine z_callVP (As := [_, _]) (v := (cN J) p (0)) rfl rfl rfl (Nat.le_of_ble_eq_true rfl) (Nat.le_of_ble_eq_true rfl) (valueAt_s hRr ((rN_z (zK_x (a := 9) (x := p * 5 + 0) (v := v) (zK_x (a := 29) (x := 6) (v := 40) (zK_x (a := 29) (x := 5) (v := 40) (zK_x (a := 33) (x := 39) (v := v) (zK_x (a := 32) (x := 39) (v := (cN J) p (0)) (zK_x (a := 31) (x := 39) (v := 0) (zK_x (a := 30) (x := 39) (v := p) (zK_c (a := 33) (b := 33) (sp := 1) (dp := 0) (n := 39) (zK_c (a := 32) (b := 32) (sp := 1) (dp := 0) (n := 39) (zK_c (a := 31) (b := 31) (sp := 1) (dp := 0) (n := 39) (zK_c (a := 30) (b := 30) (sp := 1) (dp := 0) (n := 39) (zK_x (a := 29) (x := 5) (v := 39) (zK_r (k := kHi) (A := J)) rfl) (fun _ => rfl)) (fun _ => rfl)) (fun _ => rfl)) (fun _ => rfl)) rfl) rfl) rfl) rfl) rfl) rfl) rfl)).trans y1.symm) y2.symm y3 hp (by decide) hV) ?_
  refine z_istore rfl rfl ?_
  refine z_iload rfl rfl ?_
  refine z_iload rfl rfl ?_
  refine z_icmp_neT rfl (by omega) (by omega) (by omega) ?_
  refine z_aload rfl rfl ?_
  refine z_pushI (z := 0) rfl rfl ?_
  refine z_putI (y := 9) rfl rfl rfl ?_
  refine z_aload rfl rfl ?_
  refine z_getI (v := 40) rfl rfl ((zU_x (by decide)).trans ((zU_n (by decide)).trans ((zU_n (by decide)).trans ((zU_n (by decide)).trans ((zU_n (by decide)).trans ((zU_n (by decide)).trans ((zU_n (by decide)).trans ((zU_n (by decide)).trans ((zC_n (by decide)).trans ((zC_n (by decide)).trans ((zC_n (by decide)).trans ((zC_n (by decide)).trans ((zU_n (by decide)).trans (c1.symm.trans h40)))))))))))))) ?_
  refine z_pushI (z := 40) rfl rfl ?_
  refine z_icmp_neF rfl (by decide) (by decide) (by decide) ?_
  refine z_pushI (z := 1) rfl rfl ?_
  refine z_istore rfl rfl ?_
  show zW _ _ _ _ [some (.ref 50), some (zi 0), some (zi p), some (zi v), some (zi ((cN J) p (0))), some (zi 1)] [] _ _ _ _
  refine zC4_in ?_
  refine shift40_z hRr 39 0 (by decide) (by decide) ?_
  refine z_aload rfl rfl ?_
  refine z_dup rfl rfl ?_
  refine z_getI (v := 40) rfl rfl ((zC_n (by decide)).trans ((zC_n (by decide)).trans ((zC_n (by decide)).trans ((zC_n (by decide)).trans ((zU_x (by decide)).trans ((zU_n (by decide)).trans ((zU_n (by decide)).trans ((zU_n (by decide)).trans ((zU_n (by decide)).trans ((zU_n (by decide)).trans ((zU_n (by decide)).trans ((zU_n (by decide)).trans ((zC_n (by decide)).trans ((zC_n (by decide)).trans ((zC_n (by decide)).trans ((zC_n (by decide)).trans ((zU_n (by decide)).trans (c1.symm.trans h40)))))))))))))))))) ?_
  refine z_pushI (z := 1) rfl rfl ?_
  refine z_isub (e := 39) rfl rfl ?_
  refine z_putI (y := 8) rfl rfl rfl ?_
  refine z_aload rfl rfl ?_
  refine z_getR (r := 57) rfl rfl (hRr _ rm_50_10 (by decide)) ?_
  refine z_aload rfl rfl ?_
  refine z_getI (v := 39) rfl rfl (zU_e) ?_
  refine z_iload rfl rfl ?_
  refine z_iast (e := 0) rfl rfl (by decide) (by decide) rfl ?_
  refine z_aload rfl rfl ?_
  refine z_getR (r := 58) rfl rfl (hRr _ rm_50_11 (by decide)) ?_
  refine z_aload rfl rfl ?_
  refine z_getI (v := 39) rfl rfl ((zU_n (by decide)).trans (zU_e)) ?_
  refine z_iload rfl rfl ?_
  refine z_iast (e := p) rfl rfl (by decide) (by decide) rfl ?_
  refine z_aload rfl rfl ?_
  refine z_getR (r := 59) rfl rfl (hRr _ rm_50_12 (by decide)) ?_
  refine z_aload rfl rfl ?_
  refine z_getI (v := 39) rfl rfl ((zU_n (by decide)).trans ((zU_n (by decide)).trans (zU_e))) ?_
  refine z_iload rfl rfl ?_
  refine z_iast (e := (cN J) p (0)) rfl rfl (by decide) (by decide) rfl ?_
  refine z_aload rfl rfl ?_
  refine z_getR (r := 60) rfl rfl (hRr _ rm_50_13 (by decide)) ?_
  refine z_aload rfl rfl ?_
  refine z_getI (v := 39) rfl rfl ((zU_n (by decide)).trans ((zU_n (by decide)).trans ((zU_n (by decide)).trans (zU_e)))) ?_
  refine z_iload rfl rfl ?_
  refine z_iast (e := v) rfl rfl (by decide) (by decide) rfl ?_
  refine z_aload rfl rfl ?_
  refine z_dup rfl rfl ?_
  refine z_getI (v := 39) rfl rfl ((zU_n (by decide)).trans ((zU_n (by decide)).trans ((zU_n (by decide)).trans ((zU_n (by decide)).trans (zU_e))))) ?_
  refine z_pushI (z := 1) rfl rfl ?_
  refine z_iadd (e := 40) rfl rfl ?_
  refine z_putI (y := 8) rfl rfl rfl ?_
  refine z_aload rfl rfl ?_
  refine z_iload rfl rfl ?_
  refine z_iload rfl rfl ?_
  refine z_iload rfl rfl ?_
  refine z_callVx (As := [_, _, _]) rfl rfl rfl (Nat.le_of_ble_eq_true rfl) (Nat.le_of_ble_eq_true rfl) (lays_p (n := J 8 2) hRr y2.symm yn hp (by decide) (by omega)) ?_
  show zW _ _ _ _ _ _ _ _ _ _
  refine z_iload rfl rfl ?_
  refine z_iret rfl rfl ?_
  show zW _ _ _ _ _ _ _ _ _ _
  refine z_goto rfl ?_
  refine z_iret rfl rfl ?_
  refine ⟨?_, ?_⟩
  · first | rfl | exact congrArg (fun v => some (zi v)) (by omega) | (exfalso; omega)
  · have hs := (zK_u (a := 51) (x := p) (v := v) (zK_x (a := 50) (x := 8) (v := 40) (zK_x (a := 60) (x := 39) (v := v) (zK_x (a := 59) (x := 39) (v := (cN J) p (0)) (zK_x (a := 58) (x := 39) (v := p) (zK_x (a := 57) (x := 39) (v := 0) (zK_x (a := 50) (x := 8) (v := 39) (zK_c (a := 60) (b := 60) (sp := 1) (dp := 0) (n := 39) (zK_c (a := 59) (b := 59) (sp := 1) (dp := 0) (n := 39) (zK_c (a := 58) (b := 58) (sp := 1) (dp := 0) (n := 39) (zK_c (a := 57) (b := 57) (sp := 1) (dp := 0) (n := 39) (zK_x (a := 50) (x := 9) (v := 0) (zK_u (a := 9) (x := p * 5 + 0) (v := v) (zK_x (a := 29) (x := 6) (v := 40) (zK_x (a := 29) (x := 5) (v := 40) (zK_x (a := 33) (x := 39) (v := v) (zK_x (a := 32) (x := 39) (v := (cN J) p (0)) (zK_x (a := 31) (x := 39) (v := 0) (zK_x (a := 30) (x := 39) (v := p) (zK_c (a := 33) (b := 33) (sp := 1) (dp := 0) (n := 39) (zK_c (a := 32) (b := 32) (sp := 1) (dp := 0) (n := 39) (zK_c (a := 31) (b := 31) (sp := 1) (dp := 0) (n := 39) (zK_c (a := 30) (b := 30) (sp := 1) (dp := 0) (n := 39) (zK_x (a := 29) (x := 5) (v := 39) (zK_r (k := (kL [30, 31, 32, 33, 57, 58, 59, 60] [(29, 5), (30, 39), (31, 39), (32, 39), (33, 39), (29, 6), (50, 9), (50, 8), (57, 39), (58, 39), (59, 39), (60, 39)])) (A := J)) rfl) (fun _ => rfl)) (fun _ => rfl)) (fun _ => rfl)) (fun _ => rfl)) rfl) rfl) rfl) rfl) rfl) rfl)) rfl) (fun _ => rfl)) (fun _ => rfl)) (fun _ => rfl)) (fun _ => rfl)) rfl) rfl) rfl) rfl) rfl) rfl))
    have hY2 := RelY_k hs (by repeat' constructor) (fun p => by repeat' constructor) (RelY_p (p := p) (w := 0) hY (by omega) (by omega) hf2 (by omega) rfl rfl)
    have hok : zOkc (J 8 2) p (0) ((cN J) p (0)) v := ⟨hV, nf, hf2⟩
    have hk := (zK_x (a := 51) (x := p) (v := v) (zK_x (a := 50) (x := 8) (v := 40) (zK_x (a := 60) (x := 39) (v := v) (zK_x (a := 59) (x := 39) (v := (cN J) p (0)) (zK_x (a := 58) (x := 39) (v := p) (zK_x (a := 57) (x := 39) (v := 0) (zK_x (a := 50) (x := 8) (v := 39) (zK_c (a := 60) (b := 60) (sp := 1) (dp := 0) (n := 39) (zK_c (a := 59) (b := 59) (sp := 1) (dp := 0) (n := 39) (zK_c (a := 58) (b := 58) (sp := 1) (dp := 0) (n := 39) (zK_c (a := 57) (b := 57) (sp := 1) (dp := 0) (n := 39) (zK_x (a := 50) (x := 9) (v := 0) (zK_x (a := 9) (x := p * 5 + 0) (v := v) (zK_x (a := 29) (x := 6) (v := 40) (zK_x (a := 29) (x := 5) (v := 40) (zK_x (a := 33) (x := 39) (v := v) (zK_x (a := 32) (x := 39) (v := (cN J) p (0)) (zK_x (a := 31) (x := 39) (v := 0) (zK_x (a := 30) (x := 39) (v := p) (zK_c (a := 33) (b := 33) (sp := 1) (dp := 0) (n := 39) (zK_c (a := 32) (b := 32) (sp := 1) (dp := 0) (n := 39) (zK_c (a := 31) (b := 31) (sp := 1) (dp := 0) (n := 39) (zK_c (a := 30) (b := 30) (sp := 1) (dp := 0) (n := 39) (zK_x (a := 29) (x := 5) (v := 39) (zK_r (k := (kL [30, 31, 32, 33, 9, 57, 58, 59, 60, 51] [(29, 5), (30, 39), (31, 39), (32, 39), (33, 39), (29, 6), (50, 9), (50, 8), (57, 39), (58, 39), (59, 39), (60, 39)])) (A := J)) rfl) (fun _ => rfl)) (fun _ => rfl)) (fun _ => rfl)) (fun _ => rfl)) rfl) rfl) rfl) rfl) rfl) rfl) rfl) rfl) (fun _ => rfl)) (fun _ => rfl)) (fun _ => rfl)) (fun _ => rfl)) rfl) rfl) rfl) rfl) rfl) rfl) rfl)
    exact ⟨hR, hG, hY2, RelD_k hk (by repeat' constructor) (fun p => by repeat' constructor) hD, RelP_k hk (by repeat' constructor) (fun p => by repeat' constructor) hP, (RelC_mk (K := J) (d := 39) (o := 1) rfl rfl rfl rfl (by decide) (by decide) rfl rfl hC (by omega) (fun i i1 i2 => ⟨⟨(zU_n (by decide)).trans ((zU_n (by decide)).trans ((zU_n (by decide)).trans ((zU_n (by decide)).trans ((zU_n (by decide)).trans ((zU_n (by decide)).trans ((zU_n (by decide)).trans ((zC_n (by decide)).trans ((zC_n (by decide)).trans ((zC_n (by decide)).trans ((zC_n (by decide)).trans ((zU_n (by decide)).trans ((zU_n (by decide)).trans ((zU_n (by decide)).trans ((zU_n (by decide)).trans ((zU_n (by decide)).trans ((zU_n (by decide)).trans ((zU_n (by decide)).trans ((zU_x (by omega)).trans ((zC_n (by decide)).trans ((zC_n (by decide)).trans ((zC_n (by decide)).trans ((zC_sh (by omega)).trans ((zU_n (by decide)).trans (rfl)))))))))))))))))))))))), (zU_n (by decide)).trans ((zU_n (by decide)).trans ((zU_n (by decide)).trans ((zU_n (by decide)).trans ((zU_n (by decide)).trans ((zU_n (by decide)).trans ((zU_n (by decide)).trans ((zC_n (by decide)).trans ((zC_n (by decide)).trans ((zC_n (by decide)).trans ((zC_n (by decide)).trans ((zU_n (by decide)).trans ((zU_n (by decide)).trans ((zU_n (by decide)).trans ((zU_n (by decide)).trans ((zU_n (by decide)).trans ((zU_n (by decide)).trans ((zU_x (by omega)).trans ((zU_n (by decide)).trans ((zC_n (by decide)).trans ((zC_n (by decide)).trans ((zC_sh (by omega)).trans ((zC_n (by decide)).trans ((zU_n (by decide)).trans (rfl)))))))))))))))))))))))), (zU_n (by decide)).trans ((zU_n (by decide)).trans ((zU_n (by decide)).trans ((zU_n (by decide)).trans ((zU_n (by decide)).trans ((zU_n (by decide)).trans ((zU_n (by decide)).trans ((zC_n (by decide)).trans ((zC_n (by decide)).trans ((zC_n (by decide)).trans ((zC_n (by decide)).trans ((zU_n (by decide)).trans ((zU_n (by decide)).trans ((zU_n (by decide)).trans ((zU_n (by decide)).trans ((zU_n (by decide)).trans ((zU_x (by omega)).trans ((zU_n (by decide)).trans ((zU_n (by decide)).trans ((zC_n (by decide)).trans ((zC_sh (by omega)).trans ((zC_n (by decide)).trans ((zC_n (by decide)).trans ((zU_n (by decide)).trans (rfl)))))))))))))))))))))))), (zU_n (by decide)).trans ((zU_n (by decide)).trans ((zU_n (by decide)).trans ((zU_n (by decide)).trans ((zU_n (by decide)).trans ((zU_n (by decide)).trans ((zU_n (by decide)).trans ((zC_n (by decide)).trans ((zC_n (by decide)).trans ((zC_n (by decide)).trans ((zC_n (by decide)).trans ((zU_n (by decide)).trans ((zU_n (by decide)).trans ((zU_n (by decide)).trans ((zU_n (by decide)).trans ((zU_x (by omega)).trans ((zU_n (by decide)).trans ((zU_n (by decide)).trans ((zU_n (by decide)).trans ((zC_sh (by omega)).trans ((zC_n (by decide)).trans ((zC_n (by decide)).trans ((zC_n (by decide)).trans ((zU_n (by decide)).trans (rfl))))))))))))))))))))))))⟩, ⟨(zU_n (by decide)).trans ((zU_n (by decide)).trans ((zU_n (by decide)).trans ((zU_n (by decide)).trans ((zU_x (by omega)).trans ((zU_n (by decide)).trans ((zU_n (by decide)).trans ((zC_n (by decide)).trans ((zC_n (by decide)).trans ((zC_sh (by omega)).trans ((zC_n (by decide)).trans ((zU_n (by decide)).trans ((zU_n (by decide)).trans ((zU_n (by decide)).trans ((zU_n (by decide)).trans ((zU_n (by decide)).trans ((zU_n (by decide)).trans ((zU_n (by decide)).trans ((zU_n (by decide)).trans ((zC_n (by decide)).trans ((zC_n (by decide)).trans ((zC_n (by decide)).trans ((zC_n (by decide)).trans ((zU_n (by decide)).trans (rfl)))))))))))))))))))))))), (zU_n (by decide)).trans ((zU_n (by decide)).trans ((zU_n (by decide)).trans ((zU_n (by decide)).trans ((zU_n (by decide)).trans ((zU_x (by omega)).trans ((zU_n (by decide)).trans ((zC_n (by decide)).trans ((zC_n (by decide)).trans ((zC_n (by decide)).trans ((zC_sh (by omega)).trans ((zU_n (by decide)).trans ((zU_n (by decide)).trans ((zU_n (by decide)).trans ((zU_n (by decide)).trans ((zU_n (by decide)).trans ((zU_n (by decide)).trans ((zU_n (by decide)).trans ((zU_n (by decide)).trans ((zC_n (by decide)).trans ((zC_n (by decide)).trans ((zC_n (by decide)).trans ((zC_n (by decide)).trans ((zU_n (by decide)).trans (rfl)))))))))))))))))))))))), (zU_n (by decide)).trans ((zU_n (by decide)).trans ((zU_n (by decide)).trans ((zU_x (by omega)).trans ((zU_n (by decide)).trans ((zU_n (by decide)).trans ((zU_n (by decide)).trans ((zC_n (by decide)).trans ((zC_sh (by omega)).trans ((zC_n (by decide)).trans ((zC_n (by decide)).trans ((zU_n (by decide)).trans ((zU_n (by decide)).trans ((zU_n (by decide)).trans ((zU_n (by decide)).trans ((zU_n (by decide)).trans ((zU_n (by decide)).trans ((zU_n (by decide)).trans ((zU_n (by decide)).trans ((zC_n (by decide)).trans ((zC_n (by decide)).trans ((zC_n (by decide)).trans ((zC_n (by decide)).trans ((zU_n (by decide)).trans (rfl)))))))))))))))))))))))), (zU_n (by decide)).trans ((zU_n (by decide)).trans ((zU_x (by omega)).trans ((zU_n (by decide)).trans ((zU_n (by decide)).trans ((zU_n (by decide)).trans ((zU_n (by decide)).trans ((zC_sh (by omega)).trans ((zC_n (by decide)).trans ((zC_n (by decide)).trans ((zC_n (by decide)).trans ((zU_n (by decide)).trans ((zU_n (by decide)).trans ((zU_n (by decide)).trans ((zU_n (by decide)).trans ((zU_n (by decide)).trans ((zU_n (by decide)).trans ((zU_n (by decide)).trans ((zU_n (by decide)).trans ((zC_n (by decide)).trans ((zC_n (by decide)).trans ((zC_n (by decide)).trans ((zC_n (by decide)).trans ((zU_n (by decide)).trans (rfl))))))))))))))))))))))))⟩⟩) ((zU_n (by decide)).trans ((zU_n (by decide)).trans ((zU_n (by decide)).trans ((zU_n (by decide)).trans ((zU_n (by decide)).trans ((zU_n (by decide)).trans ((zU_n (by decide)).trans ((zC_n (by decide)).trans ((zC_n (by decide)).trans ((zC_n (by decide)).trans ((zC_n (by decide)).trans ((zU_n (by decide)).trans ((zU_n (by decide)).trans ((zU_n (by decide)).trans ((zU_n (by decide)).trans ((zU_n (by decide)).trans ((zU_n (by decide)).trans ((zU_n (by decide)).trans (zU_e))))))))))))))))))) ((zU_n (by decide)).trans ((zU_n (by decide)).trans ((zU_n (by decide)).trans ((zU_n (by decide)).trans ((zU_n (by decide)).trans ((zU_n (by decide)).trans ((zU_n (by decide)).trans ((zC_n (by decide)).trans ((zC_n (by decide)).trans ((zC_n (by decide)).trans ((zC_n (by decide)).trans ((zU_n (by decide)).trans ((zU_n (by decide)).trans ((zU_n (by decide)).trans ((zU_n (by decide)).trans ((zU_n (by decide)).trans ((zU_n (by decide)).trans (zU_e)))))))))))))))))) ((zU_n (by decide)).trans ((zU_n (by decide)).trans ((zU_n (by decide)).trans ((zU_n (by decide)).trans ((zU_n (by decide)).trans ((zU_n (by decide)).trans ((zU_n (by decide)).trans ((zC_n (by decide)).trans ((zC_n (by decide)).trans ((zC_n (by decide)).trans ((zC_n (by decide)).trans ((zU_n (by decide)).trans ((zU_n (by decide)).trans ((zU_n (by decide)).trans ((zU_n (by decide)).trans ((zU_n (by decide)).trans (zU_e))))))))))))))))) ((zU_n (by decide)).trans ((zU_n (by decide)).trans ((zU_n (by decide)).trans ((zU_n (by decide)).trans ((zU_n (by decide)).trans ((zU_n (by decide)).trans ((zU_n (by decide)).trans ((zC_n (by decide)).trans ((zC_n (by decide)).trans ((zC_n (by decide)).trans ((zC_n (by decide)).trans ((zU_n (by decide)).trans ((zU_n (by decide)).trans ((zU_n (by decide)).trans ((zU_n (by decide)).trans (zU_e)))))))))))))))) ((zU_n (by decide)).trans ((zU_n (by decide)).trans ((zU_n (by decide)).trans ((zU_n (by decide)).trans (zU_e))))) ((zU_n (by decide)).trans ((zU_n (by decide)).trans ((zU_n (by decide)).trans ((zU_n (by decide)).trans ((zU_n (by decide)).trans (zU_e)))))) ((zU_n (by decide)).trans ((zU_n (by decide)).trans ((zU_n (by decide)).trans (zU_e)))) ((zU_n (by decide)).trans ((zU_n (by decide)).trans (zU_e))) hok), RelA_k hk (by repeat' constructor) (fun p => by repeat' constructor) hAc, RelS_k hk (zK_r (k := kM)) (fun x j a b => ⟨kL_38 (by decide) (by decide) x j a b, kM_38 x j a b⟩) (fun p => ⟨rfl, rfl, rfl⟩) rfl hS, RelT_k hk (by repeat' constructor) (fun p => by repeat' constructor) hTp, RelX_k hk (by repeat' constructor) (fun p => by repeat' constructor) hX, RelW_k hk ⟨rfl, rfl⟩ trivial hW⟩
theorem st_mend4_g {X : Nat × (Nat → Int32)} {d : Nat} {J M : zA} {R : zR} {p w v : Int} (hr : Rel X J M R) (hp : -2147483648 ≤ p ∧ p < 2147483648) (hw : -2147483648 ≤ w ∧ w < 2147483648) (hv : -2147483648 ≤ v ∧ v < 2147483648) (hV : zV (J 8 2) p w) (hf : zT 2 w ≤ v ∧ v ≤ zT 3 w) (he : ¬ (cN J) p w = v) (h40 : J 29 5 = 40) (hg : 5 ≤ w) : zW X (d + 20) 104 0 (gEn 104 [(.ref 0), (zi p), (zi w), (zi v)]) [] J M R (stP X (d + 20) 162 [(zi p), (zi w), (zi v)]) := by
  have hr0 := hr
  obtain ⟨hR, hG, hY, hD, hP, hC, hAc, hS, hTp, hX, hW⟩ := hr0
  have hRr : zRoR R := zRoR_of hR
  have hY0 := hY
  obtain ⟨y1, y2, y3⟩ := hY0
  have yn := zNn y3
  have hC0 := hC
  obtain ⟨c1, c2, c3, c4, c5, c6⟩ := hC0
  have nr := zN_r y3 hV
  have nf := zN_fit y3 hV
  have hf2 : zFit w v := hf
  show zW _ _ _ _ [some (.ref 0), some (zi p), some (zi w), some (zi v), none] _ _ _ _ _
  refine z_aload rfl rfl ?_
  refine z_getR (r := 8) rfl rfl (hR _ rm_0_1) ?_
  refine z_iload rfl rfl ?_
  refine z_iload rfl rfl ?_
  refine z_callVP (As := [_, _]) (v := 1) rfl rfl rfl (Nat.le_of_ble_eq_true rfl) (Nat.le_of_ble_eq_true rfl) (isNumber_1 hR rfl yn hp hw hV) ?_
  refine z_if_eqF rfl (by decide) (by decide) ?_
  refine z_iload rfl rfl ?_
  refine z_iload rfl rfl ?_
  refine z_callSP (As := [_, _]) (v := 1) rfl rfl (Nat.le_of_ble_eq_true rfl) (Nat.le_of_ble_eq_true rfl) (isFit_1 hv hw (by omega) hf) ?_
  refine z_if_neT rfl (by decide) (by decide) ?_
  refine z_aload rfl rfl ?_
  refine z_getR (r := 8) rfl rfl (hR _ rm_0_1) ?_
  refine z_iload rfl rfl ?_
  refine z_iload rfl rfl ?_
  refine z_callVP (As := [_, _]) (v := (cN J) p w) rfl rfl rfl (Nat.le_of_ble_eq_true rfl) (Nat.le_of_ble_eq_true rfl) (told_k hR zK_r rfl rfl y3 hp hw) ?_
  refine z_istore rfl rfl ?_
  refine z_iload rfl rfl ?_
  refine z_iload rfl rfl ?_
  refine z_icmp_eqF rfl (by omega) (by omega) (by omega) ?_
  refine z_aload rfl rfl ?_
  refine z_getR (r := 29) rfl rfl (hR _ rm_0_9) ?_
  refine z_iload rfl rfl ?_
  refine z_iload rfl rfl ?_
  refine z_iload rfl rfl ?_
  refine z_iload rfl rfl ?_
  refine z_callVi (As := [_, _, _, _]) (le := [some _, some _, some _, some _, some _]) rfl rfl rfl (Nat.le_of_ble_eq_true rfl) (Nat.le_of_ble_eq_true rfl) rfl ?_
  refine z_aload rfl rfl ?_
  refine z_getI (v := 40) rfl rfl (h40) ?_
  refine z_pushI (z := 40) rfl rfl ?_
  refine z_icmp_ltF rfl (by decide) (by decide) (by decide) ?_
  refine z_aload rfl rfl ?_
  refine z_callVi (As := []) (le := [some _]) rfl rfl rfl (Nat.le_of_ble_eq_true rfl) (Nat.le_of_ble_eq_true rfl) rfl ?_
  refine z_aload rfl rfl ?_
  refine z_pushI (z := 39) rfl rfl ?_
  refine z_putI (y := 5) rfl rfl rfl ?_
  refine z_aload rfl rfl ?_
  refine z_getR (r := 30) rfl rfl (hR _ rm_29_1) ?_
  refine z_pushI (z := 1) rfl rfl ?_
  refine z_aload rfl rfl ?_
  refine z_getR (r := 30) rfl rfl (hR _ rm_29_1) ?_
  refine z_pushI (z := 0) rfl rfl ?_
  refine z_aload rfl rfl ?_
  refine z_getI (v := 39) rfl rfl (zU_e) ?_
  refine z_copyI rfl rfl rfl (by decide) (by decide) (by decide) (by decide) (by decide) (by decide) (by decide) (by decide) ?_
  refine z_aload rfl rfl ?_
  refine z_getR (r := 31) rfl rfl (hR _ rm_29_2) ?_
  refine z_pushI (z := 1) rfl rfl ?_
  refine z_aload rfl rfl ?_
  refine z_getR (r := 31) rfl rfl (hR _ rm_29_2) ?_
  refine z_pushI (z := 0) rfl rfl ?_
  refine z_aload rfl rfl ?_
  refine z_getI (v := 39) rfl rfl ((zC_n (by decide)).trans (zU_e)) ?_
  refine z_copyI rfl rfl rfl (by decide) (by decide) (by decide) (by decide) (by decide) (by decide) (by decide) (by decide) ?_
  refine z_aload rfl rfl ?_
  refine z_getR (r := 32) rfl rfl (hR _ rm_29_3) ?_
  refine z_pushI (z := 1) rfl rfl ?_
  refine z_aload rfl rfl ?_
  refine z_getR (r := 32) rfl rfl (hR _ rm_29_3) ?_
  refine z_pushI (z := 0) rfl rfl ?_
  refine z_aload rfl rfl ?_
  refine z_getI (v := 39) rfl rfl ((zC_n (by decide)).trans ((zC_n (by decide)).trans (zU_e))) ?_
  refine z_copyI rfl rfl rfl (by decide) (by decide) (by decide) (by decide) (by decide) (by decide) (by decide) (by decide) ?_
  refine z_aload rfl rfl ?_
  refine z_getR (r := 33) rfl rfl (hR _ rm_29_4) ?_
  refine z_pushI (z := 1) rfl rfl ?_
  refine z_aload rfl rfl ?_
  refine z_getR (r := 33) rfl rfl (hR _ rm_29_4) ?_
  refine z_pushI (z := 0) rfl rfl ?_
  refine z_aload rfl rfl ?_
  refine z_getI (v := 39) rfl rfl ((zC_n (by decide)).trans ((zC_n (by decide)).trans ((zC_n (by decide)).trans (zU_e)))) ?_
  refine z_copyI rfl rfl rfl (by decide) (by decide) (by decide) (by decide) (by decide) (by decide) (by decide) (by decide) ?_
  refine z_vret rfl rfl ?_
  show zW _ _ _ _ _ _ _ _ _ _
  refine z_aload rfl rfl ?_
  refine z_getR (r := 30) rfl rfl (hR _ rm_29_1) ?_
  refine z_aload rfl rfl ?_
  refine z_getI (v := 39) rfl rfl ((zC_n (by decide)).trans ((zC_n (by decide)).trans ((zC_n (by decide)).trans ((zC_n (by decide)).trans (zU_e))))) ?_
  refine z_iload rfl rfl ?_
  refine z_iast (e := p) rfl rfl (by decide) (by decide) rfl ?_
  refine z_aload rfl rfl ?_
  refine z_getR (r := 31) rfl rfl (hR _ rm_29_2) ?_
  refine z_aload rfl rfl ?_
  refine z_getI (v := 39) rfl rfl ((zU_n (by decide)).trans ((zC_n (by decide)).trans ((zC_n (by decide)).trans ((zC_n (by decide)).trans ((zC_n (by decide)).trans (zU_e)))))) ?_
  refine z_iload rfl rfl ?_
  refine z_iast (e := w) rfl rfl (by decide) (by decide) rfl ?_
  refine z_aload rfl rfl ?_
  refine z_getR (r := 32) rfl rfl (hR _ rm_29_3) ?_
  refine z_aload rfl rfl ?_
  refine z_getI (v := 39) rfl rfl ((zU_n (by decide)).trans ((zU_n (by decide)).trans ((zC_n (by decide)).trans ((zC_n (by decide)).trans ((zC_n (by decide)).trans ((zC_n (by decide)).trans (zU_e))))))) ?_
  refine z_iload rfl rfl ?_
  refine z_iast (e := (cN J) p w) rfl rfl (by decide) (by decide) rfl ?_
  refine z_aload rfl rfl ?_
  refine z_getR (r := 33) rfl rfl (hR _ rm_29_4) ?_
  refine z_aload rfl rfl ?_
  refine z_getI (v := 39) rfl rfl ((zU_n (by decide)).trans ((zU_n (by decide)).trans ((zU_n (by decide)).trans ((zC_n (by decide)).trans ((zC_n (by decide)).trans ((zC_n (by decide)).trans ((zC_n (by decide)).trans (zU_e)))))))) ?_
  refine z_iload rfl rfl ?_
  refine z_iast (e := v) rfl rfl (by decide) (by decide) rfl ?_
  refine z_aload rfl rfl ?_
  refine z_dup rfl rfl ?_
  refine z_getI (v := 39) rfl rfl ((zU_n (by decide)).trans ((zU_n (by decide)).trans ((zU_n (by decide)).trans ((zU_n (by decide)).trans ((zC_n (by decide)).trans ((zC_n (by decide)).trans ((zC_n (by decide)).trans ((zC_n (by decide)).trans (zU_e))))))))) ?_
  refine z_pushI (z := 1) rfl rfl ?_
  refine z_iadd (e := 40) rfl rfl ?_
  refine z_putI (y := 5) rfl rfl rfl ?_
  refine z_aload rfl rfl ?_
  refine z_aload rfl rfl ?_
  refine z_getI (v := 40) rfl rfl (zU_e) ?_
  refine z_putI (y := 6) rfl rfl rfl ?_
  refine z_vret rfl rfl ?_
  show zW _ _ _ _ _ _ _ _ _ _
  refine z_aload rfl rfl ?_
  refine z_getR (r := 8) rfl rfl (hR _ rm_0_1) ?_
  refine z_iload rfl rfl ?_
  refine z_iload rfl rfl ?_
  refine z_iload rfl rfl ?_
  refine z_callVx (As := [_, _, _]) rfl rfl rfl (Nat.le_of_ble_eq_true rfl) (Nat.le_of_ble_eq_true rfl) (tell_g (n := J 8 2) hR rfl yn hp hw (by omega)) ?_
  show zW _ _ _ _ _ _ _ _ _ _
  refine z_iload rfl rfl ?_
  refine z_iret rfl rfl ?_
  refine ⟨_, rfl, ?_⟩
  show zW _ _ _ _ [some (.ref 50), some (zi p), some (zi w), some (zi v)] _ _ _ _ _
  refine z_aload rfl rfl ?_
  refine z_iload rfl rfl ?_
  refine z_iload rfl rfl ?_
  refine z_callVP (As := [_, _]) (v := 1) rfl rfl rfl (Nat.le_of_ble_eq_true rfl) (Nat.le_of_ble_eq_true rfl) (isOne_1 hRr y2.symm yn hp hw hV) ?_
  refine z_if_eqF rfl (by decide) (by decide) ?_
  refine z_iload rfl rfl ?_
  refine z_iload rfl rfl ?_
  refine z_callSP (As := [_, _]) (v := 1) rfl rfl (Nat.le_of_ble_eq_true rfl) (Nat.le_of_ble_eq_true rfl) (mayBe_1 hv hw (by omega) hf) ?_
  refine z_if_eqF rfl (by decide) (by decide) ?_
  refine z_aload rfl rfl ?_
  refine z_iload rfl rfl ?_
  refine z_iload rfl rfl ?_
  refine z_iload rfl rfl ?_
  refine z_callVi (As := [_, _, _]) (le := [some _, some _, some _, some _, none, none]) rfl rfl rfl (Nat.le_of_ble_eq_true rfl) (Nat.le_of_ble_eq_true rfl) rfl ?_
  refine z_aload rfl rfl ?_
  refine z_iload rfl rfl ?_
  refine z_iload rfl rfl ?_
  refine z_callVP (As := [_, _]) (v := (cN J) p w) rfl rfl rfl (Nat.le_of_ble_eq_true rfl) (Nat.le_of_ble_eq_true rfl) (valueAt_s hRr ((rN_z (zK_x (a := 9) (x := 40 + w) (v := v) (zK_x (a := 29) (x := 6) (v := 40) (zK_x (a := 29) (x := 5) (v := 40) (zK_x (a := 33) (x := 39) (v := v) (zK_x (a := 32) (x := 39) (v := (cN J) p w) (zK_x (a := 31) (x := 39) (v := w) (zK_x (a := 30) (x := 39) (v := p) (zK_c (a := 33) (b := 33) (sp := 1) (dp := 0) (n := 39) (zK_c (a := 32) (b := 32) (sp := 1) (dp := 0) (n := 39) (zK_c (a := 31) (b := 31) (sp := 1) (dp := 0) (n := 39) (zK_c (a := 30) (b := 30) (sp := 1) (dp := 0) (n := 39) (zK_x (a := 29) (x := 5) (v := 39) (zK_r (k := kHi) (A := J)) rfl) (fun _ => rfl)) (fun _ => rfl)) (fun _ => rfl)) (fun _ => rfl)) rfl) rfl) rfl) rfl) rfl) rfl) rfl)).trans y1.symm) y2.symm y3 hp hw hV) ?_
  refine z_istore rfl rfl ?_
  refine z_iload rfl rfl ?_
  refine z_iload rfl rfl ?_
  refine z_icmp_neT rfl (by omega) (by omega) (by omega) ?_
  refine z_aload rfl rfl ?_
  refine z_pushI (z := 0) rfl rfl ?_
  refine z_putI (y := 9) rfl rfl rfl ?_
  refine z_aload rfl rfl ?_
  refine z_getI (v := 40) rfl rfl ((zU_x (by decide)).trans ((zU_n (by decide)).trans ((zU_n (by decide)).trans ((zU_n (by decide)).trans ((zU_n (by decide)).trans ((zU_n (by decide)).trans ((zU_n (by decide)).trans ((zU_n (by decide)).trans ((zC_n (by decide)).trans ((zC_n (by decide)).trans ((zC_n (by decide)).trans ((zC_n (by decide)).trans ((zU_n (by decide)).trans (c1.symm.trans h40)))))))))))))) ?_
  refine z_pushI (z := 40) rfl rfl ?_
  refine z_icmp_neF rfl (by decide) (by decide) (by decide) ?_
  refine z_pushI (z := 1) rfl rfl ?_
  refine z_istore rfl rfl ?_
  show zW _ _ _ _ [some (.ref 50), some (zi w), some (zi p), some (zi v), some (zi ((cN J) p w)), some (zi 1)] [] _ _ _ _
  refine zC4_in ?_
  refine shift40_z hRr 39 0 (by decide) (by decide) ?_
  refine z_aload rfl rfl ?_
  refine z_dup rfl rfl ?_
  refine z_getI (v := 40) rfl rfl ((zC_n (by decide)).trans ((zC_n (by decide)).trans ((zC_n (by decide)).trans ((zC_n (by decide)).trans ((zU_x (by decide)).trans ((zU_n (by decide)).trans ((zU_n (by decide)).trans ((zU_n (by decide)).trans ((zU_n (by decide)).trans ((zU_n (by decide)).trans ((zU_n (by decide)).trans ((zU_n (by decide)).trans ((zC_n (by decide)).trans ((zC_n (by decide)).trans ((zC_n (by decide)).trans ((zC_n (by decide)).trans ((zU_n (by decide)).trans (c1.symm.trans h40)))))))))))))))))) ?_
  refine z_pushI (z := 1) rfl rfl ?_
  refine z_isub (e := 39) rfl rfl ?_
  refine z_putI (y := 8) rfl rfl rfl ?_
  refine z_aload rfl rfl ?_
  refine z_getR (r := 57) rfl rfl (hRr _ rm_50_10 (by decide)) ?_
  refine z_aload rfl rfl ?_
  refine z_getI (v := 39) rfl rfl (zU_e) ?_
  refine z_iload rfl rfl ?_
  refine z_iast (e := w) rfl rfl (by decide) (by decide) rfl ?_
  refine z_aload rfl rfl ?_
  refine z_getR (r := 58) rfl rfl (hRr _ rm_50_11 (by decide)) ?_
  refine z_aload rfl rfl ?_
  refine z_getI (v := 39) rfl rfl ((zU_n (by decide)).trans (zU_e)) ?_
  refine z_iload rfl rfl ?_
  refine z_iast (e := p) rfl rfl (by decide) (by decide) rfl ?_
  refine z_aload rfl rfl ?_
  refine z_getR (r := 59) rfl rfl (hRr _ rm_50_12 (by decide)) ?_
  refine z_aload rfl rfl ?_
  refine z_getI (v := 39) rfl rfl ((zU_n (by decide)).trans ((zU_n (by decide)).trans (zU_e))) ?_
  refine z_iload rfl rfl ?_
  refine z_iast (e := (cN J) p w) rfl rfl (by decide) (by decide) rfl ?_
  refine z_aload rfl rfl ?_
  refine z_getR (r := 60) rfl rfl (hRr _ rm_50_13 (by decide)) ?_
  refine z_aload rfl rfl ?_
  refine z_getI (v := 39) rfl rfl ((zU_n (by decide)).trans ((zU_n (by decide)).trans ((zU_n (by decide)).trans (zU_e)))) ?_
  refine z_iload rfl rfl ?_
  refine z_iast (e := v) rfl rfl (by decide) (by decide) rfl ?_
  refine z_aload rfl rfl ?_
  refine z_dup rfl rfl ?_
  refine z_getI (v := 39) rfl rfl ((zU_n (by decide)).trans ((zU_n (by decide)).trans ((zU_n (by decide)).trans ((zU_n (by decide)).trans (zU_e))))) ?_
  refine z_pushI (z := 1) rfl rfl ?_
  refine z_iadd (e := 40) rfl rfl ?_
  refine z_putI (y := 8) rfl rfl rfl ?_
  refine z_aload rfl rfl ?_
  refine z_iload rfl rfl ?_
  refine z_iload rfl rfl ?_
  refine z_iload rfl rfl ?_
  refine z_callVx (As := [_, _, _]) rfl rfl rfl (Nat.le_of_ble_eq_true rfl) (Nat.le_of_ble_eq_true rfl) (lays_g (n := J 8 2) hRr y2.symm yn hp hw (by omega)) ?_
  show zW _ _ _ _ _ _ _ _ _ _
  refine z_iload rfl rfl ?_
  refine z_iret rfl rfl ?_
  show zW _ _ _ _ _ _ _ _ _ _
  refine z_goto rfl ?_
  refine z_iret rfl rfl ?_
  refine ⟨?_, ?_⟩
  · first | rfl | exact congrArg (fun v => some (zi v)) (by omega) | (exfalso; omega)
  · have hs := (zK_u (a := 56) (x := w - 5) (v := v) (zK_x (a := 50) (x := 8) (v := 40) (zK_x (a := 60) (x := 39) (v := v) (zK_x (a := 59) (x := 39) (v := (cN J) p w) (zK_x (a := 58) (x := 39) (v := p) (zK_x (a := 57) (x := 39) (v := w) (zK_x (a := 50) (x := 8) (v := 39) (zK_c (a := 60) (b := 60) (sp := 1) (dp := 0) (n := 39) (zK_c (a := 59) (b := 59) (sp := 1) (dp := 0) (n := 39) (zK_c (a := 58) (b := 58) (sp := 1) (dp := 0) (n := 39) (zK_c (a := 57) (b := 57) (sp := 1) (dp := 0) (n := 39) (zK_x (a := 50) (x := 9) (v := 0) (zK_u (a := 9) (x := 40 + w) (v := v) (zK_x (a := 29) (x := 6) (v := 40) (zK_x (a := 29) (x := 5) (v := 40) (zK_x (a := 33) (x := 39) (v := v) (zK_x (a := 32) (x := 39) (v := (cN J) p w) (zK_x (a := 31) (x := 39) (v := w) (zK_x (a := 30) (x := 39) (v := p) (zK_c (a := 33) (b := 33) (sp := 1) (dp := 0) (n := 39) (zK_c (a := 32) (b := 32) (sp := 1) (dp := 0) (n := 39) (zK_c (a := 31) (b := 31) (sp := 1) (dp := 0) (n := 39) (zK_c (a := 30) (b := 30) (sp := 1) (dp := 0) (n := 39) (zK_x (a := 29) (x := 5) (v := 39) (zK_r (k := (kL [30, 31, 32, 33, 57, 58, 59, 60] [(29, 5), (30, 39), (31, 39), (32, 39), (33, 39), (29, 6), (50, 9), (50, 8), (57, 39), (58, 39), (59, 39), (60, 39)])) (A := J)) rfl) (fun _ => rfl)) (fun _ => rfl)) (fun _ => rfl)) (fun _ => rfl)) rfl) rfl) rfl) rfl) rfl) rfl)) rfl) (fun _ => rfl)) (fun _ => rfl)) (fun _ => rfl)) (fun _ => rfl)) rfl) rfl) rfl) rfl) rfl) rfl))
    have hY2 := RelY_k hs (by repeat' constructor) (fun p => by repeat' constructor) (RelY_g (w := w) hY (by omega) hf2 (by omega) (by omega))
    have hok : zOkc (J 8 2) p w ((cN J) p w) v := ⟨hV, nf, hf2⟩
    have hk := (zK_x (a := 56) (x := w - 5) (v := v) (zK_x (a := 50) (x := 8) (v := 40) (zK_x (a := 60) (x := 39) (v := v) (zK_x (a := 59) (x := 39) (v := (cN J) p w) (zK_x (a := 58) (x := 39) (v := p) (zK_x (a := 57) (x := 39) (v := w) (zK_x (a := 50) (x := 8) (v := 39) (zK_c (a := 60) (b := 60) (sp := 1) (dp := 0) (n := 39) (zK_c (a := 59) (b := 59) (sp := 1) (dp := 0) (n := 39) (zK_c (a := 58) (b := 58) (sp := 1) (dp := 0) (n := 39) (zK_c (a := 57) (b := 57) (sp := 1) (dp := 0) (n := 39) (zK_x (a := 50) (x := 9) (v := 0) (zK_x (a := 9) (x := 40 + w) (v := v) (zK_x (a := 29) (x := 6) (v := 40) (zK_x (a := 29) (x := 5) (v := 40) (zK_x (a := 33) (x := 39) (v := v) (zK_x (a := 32) (x := 39) (v := (cN J) p w) (zK_x (a := 31) (x := 39) (v := w) (zK_x (a := 30) (x := 39) (v := p) (zK_c (a := 33) (b := 33) (sp := 1) (dp := 0) (n := 39) (zK_c (a := 32) (b := 32) (sp := 1) (dp := 0) (n := 39) (zK_c (a := 31) (b := 31) (sp := 1) (dp := 0) (n := 39) (zK_c (a := 30) (b := 30) (sp := 1) (dp := 0) (n := 39) (zK_x (a := 29) (x := 5) (v := 39) (zK_r (k := (kL [30, 31, 32, 33, 9, 57, 58, 59, 60, 56] [(29, 5), (30, 39), (31, 39), (32, 39), (33, 39), (29, 6), (50, 9), (50, 8), (57, 39), (58, 39), (59, 39), (60, 39)])) (A := J)) rfl) (fun _ => rfl)) (fun _ => rfl)) (fun _ => rfl)) (fun _ => rfl)) rfl) rfl) rfl) rfl) rfl) rfl) rfl) rfl) (fun _ => rfl)) (fun _ => rfl)) (fun _ => rfl)) (fun _ => rfl)) rfl) rfl) rfl) rfl) rfl) rfl) rfl)
    exact ⟨hR, hG, hY2, RelD_k hk (by repeat' constructor) (fun p => by repeat' constructor) hD, RelP_k hk (by repeat' constructor) (fun p => by repeat' constructor) hP, (RelC_mk (K := J) (d := 39) (o := 1) rfl rfl rfl rfl (by decide) (by decide) rfl rfl hC (by omega) (fun i i1 i2 => ⟨⟨(zU_n (by decide)).trans ((zU_n (by decide)).trans ((zU_n (by decide)).trans ((zU_n (by decide)).trans ((zU_n (by decide)).trans ((zU_n (by decide)).trans ((zU_n (by decide)).trans ((zC_n (by decide)).trans ((zC_n (by decide)).trans ((zC_n (by decide)).trans ((zC_n (by decide)).trans ((zU_n (by decide)).trans ((zU_n (by decide)).trans ((zU_n (by decide)).trans ((zU_n (by decide)).trans ((zU_n (by decide)).trans ((zU_n (by decide)).trans ((zU_n (by decide)).trans ((zU_x (by omega)).trans ((zC_n (by decide)).trans ((zC_n (by decide)).trans ((zC_n (by decide)).trans ((zC_sh (by omega)).trans ((zU_n (by decide)).trans (rfl)))))))))))))))))))))))), (zU_n (by decide)).trans ((zU_n (by decide)).trans ((zU_n (by decide)).trans ((zU_n (by decide)).trans ((zU_n (by decide)).trans ((zU_n (by decide)).trans ((zU_n (by decide)).trans ((zC_n (by decide)).trans ((zC_n (by decide)).trans ((zC_n (by decide)).trans ((zC_n (by decide)).trans ((zU_n (by decide)).trans ((zU_n (by decide)).trans ((zU_n (by decide)).trans ((zU_n (by decide)).trans ((zU_n (by decide)).trans ((zU_n (by decide)).trans ((zU_x (by omega)).trans ((zU_n (by decide)).trans ((zC_n (by decide)).trans ((zC_n (by decide)).trans ((zC_sh (by omega)).trans ((zC_n (by decide)).trans ((zU_n (by decide)).trans (rfl)))))))))))))))))))))))), (zU_n (by decide)).trans ((zU_n (by decide)).trans ((zU_n (by decide)).trans ((zU_n (by decide)).trans ((zU_n (by decide)).trans ((zU_n (by decide)).trans ((zU_n (by decide)).trans ((zC_n (by decide)).trans ((zC_n (by decide)).trans ((zC_n (by decide)).trans ((zC_n (by decide)).trans ((zU_n (by decide)).trans ((zU_n (by decide)).trans ((zU_n (by decide)).trans ((zU_n (by decide)).trans ((zU_n (by decide)).trans ((zU_x (by omega)).trans ((zU_n (by decide)).trans ((zU_n (by decide)).trans ((zC_n (by decide)).trans ((zC_sh (by omega)).trans ((zC_n (by decide)).trans ((zC_n (by decide)).trans ((zU_n (by decide)).trans (rfl)))))))))))))))))))))))), (zU_n (by decide)).trans ((zU_n (by decide)).trans ((zU_n (by decide)).trans ((zU_n (by decide)).trans ((zU_n (by decide)).trans ((zU_n (by decide)).trans ((zU_n (by decide)).trans ((zC_n (by decide)).trans ((zC_n (by decide)).trans ((zC_n (by decide)).trans ((zC_n (by decide)).trans ((zU_n (by decide)).trans ((zU_n (by decide)).trans ((zU_n (by decide)).trans ((zU_n (by decide)).trans ((zU_x (by omega)).trans ((zU_n (by decide)).trans ((zU_n (by decide)).trans ((zU_n (by decide)).trans ((zC_sh (by omega)).trans ((zC_n (by decide)).trans ((zC_n (by decide)).trans ((zC_n (by decide)).trans ((zU_n (by decide)).trans (rfl))))))))))))))))))))))))⟩, ⟨(zU_n (by decide)).trans ((zU_n (by decide)).trans ((zU_n (by decide)).trans ((zU_n (by decide)).trans ((zU_x (by omega)).trans ((zU_n (by decide)).trans ((zU_n (by decide)).trans ((zC_n (by decide)).trans ((zC_n (by decide)).trans ((zC_sh (by omega)).trans ((zC_n (by decide)).trans ((zU_n (by decide)).trans ((zU_n (by decide)).trans ((zU_n (by decide)).trans ((zU_n (by decide)).trans ((zU_n (by decide)).trans ((zU_n (by decide)).trans ((zU_n (by decide)).trans ((zU_n (by decide)).trans ((zC_n (by decide)).trans ((zC_n (by decide)).trans ((zC_n (by decide)).trans ((zC_n (by decide)).trans ((zU_n (by decide)).trans (rfl)))))))))))))))))))))))), (zU_n (by decide)).trans ((zU_n (by decide)).trans ((zU_n (by decide)).trans ((zU_n (by decide)).trans ((zU_n (by decide)).trans ((zU_x (by omega)).trans ((zU_n (by decide)).trans ((zC_n (by decide)).trans ((zC_n (by decide)).trans ((zC_n (by decide)).trans ((zC_sh (by omega)).trans ((zU_n (by decide)).trans ((zU_n (by decide)).trans ((zU_n (by decide)).trans ((zU_n (by decide)).trans ((zU_n (by decide)).trans ((zU_n (by decide)).trans ((zU_n (by decide)).trans ((zU_n (by decide)).trans ((zC_n (by decide)).trans ((zC_n (by decide)).trans ((zC_n (by decide)).trans ((zC_n (by decide)).trans ((zU_n (by decide)).trans (rfl)))))))))))))))))))))))), (zU_n (by decide)).trans ((zU_n (by decide)).trans ((zU_n (by decide)).trans ((zU_x (by omega)).trans ((zU_n (by decide)).trans ((zU_n (by decide)).trans ((zU_n (by decide)).trans ((zC_n (by decide)).trans ((zC_sh (by omega)).trans ((zC_n (by decide)).trans ((zC_n (by decide)).trans ((zU_n (by decide)).trans ((zU_n (by decide)).trans ((zU_n (by decide)).trans ((zU_n (by decide)).trans ((zU_n (by decide)).trans ((zU_n (by decide)).trans ((zU_n (by decide)).trans ((zU_n (by decide)).trans ((zC_n (by decide)).trans ((zC_n (by decide)).trans ((zC_n (by decide)).trans ((zC_n (by decide)).trans ((zU_n (by decide)).trans (rfl)))))))))))))))))))))))), (zU_n (by decide)).trans ((zU_n (by decide)).trans ((zU_x (by omega)).trans ((zU_n (by decide)).trans ((zU_n (by decide)).trans ((zU_n (by decide)).trans ((zU_n (by decide)).trans ((zC_sh (by omega)).trans ((zC_n (by decide)).trans ((zC_n (by decide)).trans ((zC_n (by decide)).trans ((zU_n (by decide)).trans ((zU_n (by decide)).trans ((zU_n (by decide)).trans ((zU_n (by decide)).trans ((zU_n (by decide)).trans ((zU_n (by decide)).trans ((zU_n (by decide)).trans ((zU_n (by decide)).trans ((zC_n (by decide)).trans ((zC_n (by decide)).trans ((zC_n (by decide)).trans ((zC_n (by decide)).trans ((zU_n (by decide)).trans (rfl))))))))))))))))))))))))⟩⟩) ((zU_n (by decide)).trans ((zU_n (by decide)).trans ((zU_n (by decide)).trans ((zU_n (by decide)).trans ((zU_n (by decide)).trans ((zU_n (by decide)).trans ((zU_n (by decide)).trans ((zC_n (by decide)).trans ((zC_n (by decide)).trans ((zC_n (by decide)).trans ((zC_n (by decide)).trans ((zU_n (by decide)).trans ((zU_n (by decide)).trans ((zU_n (by decide)).trans ((zU_n (by decide)).trans ((zU_n (by decide)).trans ((zU_n (by decide)).trans ((zU_n (by decide)).trans (zU_e))))))))))))))))))) ((zU_n (by decide)).trans ((zU_n (by decide)).trans ((zU_n (by decide)).trans ((zU_n (by decide)).trans ((zU_n (by decide)).trans ((zU_n (by decide)).trans ((zU_n (by decide)).trans ((zC_n (by decide)).trans ((zC_n (by decide)).trans ((zC_n (by decide)).trans ((zC_n (by decide)).trans ((zU_n (by decide)).trans ((zU_n (by decide)).trans ((zU_n (by decide)).trans ((zU_n (by decide)).trans ((zU_n (by decide)).trans ((zU_n (by decide)).trans (zU_e)))))))))))))))))) ((zU_n (by decide)).trans ((zU_n (by decide)).trans ((zU_n (by decide)).trans ((zU_n (by decide)).trans ((zU_n (by decide)).trans ((zU_n (by decide)).trans ((zU_n (by decide)).trans ((zC_n (by decide)).trans ((zC_n (by decide)).trans ((zC_n (by decide)).trans ((zC_n (by decide)).trans ((zU_n (by decide)).trans ((zU_n (by decide)).trans ((zU_n (by decide)).trans ((zU_n (by decide)).trans ((zU_n (by decide)).trans (zU_e))))))))))))))))) ((zU_n (by decide)).trans ((zU_n (by decide)).trans ((zU_n (by decide)).trans ((zU_n (by decide)).trans ((zU_n (by decide)).trans ((zU_n (by decide)).trans ((zU_n (by decide)).trans ((zC_n (by decide)).trans ((zC_n (by decide)).trans ((zC_n (by decide)).trans ((zC_n (by decide)).trans ((zU_n (by decide)).trans ((zU_n (by decide)).trans ((zU_n (by decide)).trans ((zU_n (by decide)).trans (zU_e)))))))))))))))) ((zU_n (by decide)).trans ((zU_n (by decide)).trans ((zU_n (by decide)).trans ((zU_n (by decide)).trans (zU_e))))) ((zU_n (by decide)).trans ((zU_n (by decide)).trans ((zU_n (by decide)).trans ((zU_n (by decide)).trans ((zU_n (by decide)).trans (zU_e)))))) ((zU_n (by decide)).trans ((zU_n (by decide)).trans ((zU_n (by decide)).trans (zU_e)))) ((zU_n (by decide)).trans ((zU_n (by decide)).trans (zU_e))) hok), RelA_k hk (by repeat' constructor) (fun p => by repeat' constructor) hAc, RelS_k hk (zK_r (k := kM)) (fun x j a b => ⟨kL_38 (by decide) (by decide) x j a b, kM_38 x j a b⟩) (fun p => ⟨rfl, rfl, rfl⟩) rfl hS, RelT_k hk (by repeat' constructor) (fun p => by repeat' constructor) hTp, RelX_k hk (by repeat' constructor) (fun p => by repeat' constructor) hX, RelW_k hk ⟨rfl, rfl⟩ trivial hW⟩
theorem st_mend4_p1 {X : Nat × (Nat → Int32)} {d : Nat} {J M : zA} {R : zR} {p v : Int} (hr : Rel X J M R) (hp : -2147483648 ≤ p ∧ p < 2147483648) (hv : -2147483648 ≤ v ∧ v < 2147483648) (hV : zV (J 8 2) p (1)) (hf : zT 2 (1) ≤ v ∧ v ≤ zT 3 (1)) (he : ¬ (cN J) p (1) = v) (h40 : J 29 5 = 40) : zW X (d + 20) 104 0 (gEn 104 [(.ref 0), (zi p), (zi 1), (zi v)]) [] J M R (stP X (d + 20) 162 [(zi p), (zi 1), (zi v)]) := by
  have hr0 := hr
  obtain ⟨hR, hG, hY, hD, hP, hC, hAc, hS, hTp, hX, hW⟩ := hr0
  have hRr : zRoR R := zRoR_of hR
  have hY0 := hY
  obtain ⟨y1, y2, y3⟩ := hY0
  have yn := zNn y3
  have hC0 := hC
  obtain ⟨c1, c2, c3, c4, c5, c6⟩ := hC0
  have nr := zN_r y3 hV
  have nf := zN_fit y3 hV
  have hf2 : zFit (1) v := hf
  show zW _ _ _ _ [some (.ref 0), some (zi p), some (zi 1), some (zi v), none] _ _ _ _ _
  refine z_aload rfl rfl ?_
  refine z_getR (r := 8) rfl rfl (hR _ rm_0_1) ?_
  refine z_iload rfl rfl ?_
  refine z_iload rfl rfl ?_
  refine z_callVP (As := [_, _]) (v := 1) rfl rfl rfl (Nat.le_of_ble_eq_true rfl) (Nat.le_of_ble_eq_true rfl) (isNumber_1 hR rfl yn hp (by decide) hV) ?_
  refine z_if_eqF rfl (by decide) (by decide) ?_
  refine z_iload rfl rfl ?_
  refine z_iload rfl rfl ?_
  refine z_callSP (As := [_, _]) (v := 1) rfl rfl (Nat.le_of_ble_eq_true rfl) (Nat.le_of_ble_eq_true rfl) (isFit_1 hv (by decide) (by omega) hf) ?_
  refine z_if_neT rfl (by decide) (by decide) ?_
  refine z_aload rfl rfl ?_
  refine z_getR (r := 8) rfl rfl (hR _ rm_0_1) ?_
  refine z_iload rfl rfl ?_
  refine z_iload rfl rfl ?_
  refine z_callVP (As := [_, _]) (v := (cN J) p (1)) rfl rfl rfl (Nat.le_of_ble_eq_true rfl) (Nat.le_of_ble_eq_true rfl) (told_k hR zK_r rfl rfl y3 hp (by decide)) ?_
  refine z_istore rfl rfl ?_
  refine z_iload rfl rfl ?_
  refine z_iload rfl rfl ?_
  refine z_icmp_eqF rfl (by omega) (by omega) (by omega) ?_
  refine z_aload rfl rfl ?_
  refine z_getR (r := 29) rfl rfl (hR _ rm_0_9) ?_
  refine z_iload rfl rfl ?_
  refine z_iload rfl rfl ?_
  refine z_iload rfl rfl ?_
  refine z_iload rfl rfl ?_
  refine z_callVi (As := [_, _, _, _]) (le := [some _, some _, some _, some _, some _]) rfl rfl rfl (Nat.le_of_ble_eq_true rfl) (Nat.le_of_ble_eq_true rfl) rfl ?_
  refine z_aload rfl rfl ?_
  refine z_getI (v := 40) rfl rfl (h40) ?_
  refine z_pushI (z := 40) rfl rfl ?_
  refine z_icmp_ltF rfl (by decide) (by decide) (by decide) ?_
  refine z_aload rfl rfl ?_
  refine z_callVi (As := []) (le := [some _]) rfl rfl rfl (Nat.le_of_ble_eq_true rfl) (Nat.le_of_ble_eq_true rfl) rfl ?_
  refine z_aload rfl rfl ?_
  refine z_pushI (z := 39) rfl rfl ?_
  refine z_putI (y := 5) rfl rfl rfl ?_
  refine z_aload rfl rfl ?_
  refine z_getR (r := 30) rfl rfl (hR _ rm_29_1) ?_
  refine z_pushI (z := 1) rfl rfl ?_
  refine z_aload rfl rfl ?_
  refine z_getR (r := 30) rfl rfl (hR _ rm_29_1) ?_
  refine z_pushI (z := 0) rfl rfl ?_
  refine z_aload rfl rfl ?_
  refine z_getI (v := 39) rfl rfl (zU_e) ?_
  refine z_copyI rfl rfl rfl (by decide) (by decide) (by decide) (by decide) (by decide) (by decide) (by decide) (by decide) ?_
  refine z_aload rfl rfl ?_
  refine z_getR (r := 31) rfl rfl (hR _ rm_29_2) ?_
  refine z_pushI (z := 1) rfl rfl ?_
  refine z_aload rfl rfl ?_
  refine z_getR (r := 31) rfl rfl (hR _ rm_29_2) ?_
  refine z_pushI (z := 0) rfl rfl ?_
  refine z_aload rfl rfl ?_
  refine z_getI (v := 39) rfl rfl ((zC_n (by decide)).trans (zU_e)) ?_
  refine z_copyI rfl rfl rfl (by decide) (by decide) (by decide) (by decide) (by decide) (by decide) (by decide) (by decide) ?_
  refine z_aload rfl rfl ?_
  refine z_getR (r := 32) rfl rfl (hR _ rm_29_3) ?_
  refine z_pushI (z := 1) rfl rfl ?_
  refine z_aload rfl rfl ?_
  refine z_getR (r := 32) rfl rfl (hR _ rm_29_3) ?_
  refine z_pushI (z := 0) rfl rfl ?_
  refine z_aload rfl rfl ?_
  refine z_getI (v := 39) rfl rfl ((zC_n (by decide)).trans ((zC_n (by decide)).trans (zU_e))) ?_
  refine z_copyI rfl rfl rfl (by decide) (by decide) (by decide) (by decide) (by decide) (by decide) (by decide) (by decide) ?_
  refine z_aload rfl rfl ?_
  refine z_getR (r := 33) rfl rfl (hR _ rm_29_4) ?_
  refine z_pushI (z := 1) rfl rfl ?_
  refine z_aload rfl rfl ?_
  refine z_getR (r := 33) rfl rfl (hR _ rm_29_4) ?_
  refine z_pushI (z := 0) rfl rfl ?_
  refine z_aload rfl rfl ?_
  refine z_getI (v := 39) rfl rfl ((zC_n (by decide)).trans ((zC_n (by decide)).trans ((zC_n (by decide)).trans (zU_e)))) ?_
  refine z_copyI rfl rfl rfl (by decide) (by decide) (by decide) (by decide) (by decide) (by decide) (by decide) (by decide) ?_
  refine z_vret rfl rfl ?_
  show zW _ _ _ _ _ _ _ _ _ _
  refine z_aload rfl rfl ?_
  refine z_getR (r := 30) rfl rfl (hR _ rm_29_1) ?_
  refine z_aload rfl rfl ?_
  refine z_getI (v := 39) rfl rfl ((zC_n (by decide)).trans ((zC_n (by decide)).trans ((zC_n (by decide)).trans ((zC_n (by decide)).trans (zU_e))))) ?_
  refine z_iload rfl rfl ?_
  refine z_iast (e := p) rfl rfl (by decide) (by decide) rfl ?_
  refine z_aload rfl rfl ?_
  refine z_getR (r := 31) rfl rfl (hR _ rm_29_2) ?_
  refine z_aload rfl rfl ?_
  refine z_getI (v := 39) rfl rfl ((zU_n (by decide)).trans ((zC_n (by decide)).trans ((zC_n (by decide)).trans ((zC_n (by decide)).trans ((zC_n (by decide)).trans (zU_e)))))) ?_
  refine z_iload rfl rfl ?_
  refine z_iast (e := 1) rfl rfl (by decide) (by decide) rfl ?_
  refine z_aload rfl rfl ?_
  refine z_getR (r := 32) rfl rfl (hR _ rm_29_3) ?_
  refine z_aload rfl rfl ?_
  refine z_getI (v := 39) rfl rfl ((zU_n (by decide)).trans ((zU_n (by decide)).trans ((zC_n (by decide)).trans ((zC_n (by decide)).trans ((zC_n (by decide)).trans ((zC_n (by decide)).trans (zU_e))))))) ?_
  refine z_iload rfl rfl ?_
  refine z_iast (e := (cN J) p (1)) rfl rfl (by decide) (by decide) rfl ?_
  refine z_aload rfl rfl ?_
  refine z_getR (r := 33) rfl rfl (hR _ rm_29_4) ?_
  refine z_aload rfl rfl ?_
  refine z_getI (v := 39) rfl rfl ((zU_n (by decide)).trans ((zU_n (by decide)).trans ((zU_n (by decide)).trans ((zC_n (by decide)).trans ((zC_n (by decide)).trans ((zC_n (by decide)).trans ((zC_n (by decide)).trans (zU_e)))))))) ?_
  refine z_iload rfl rfl ?_
  refine z_iast (e := v) rfl rfl (by decide) (by decide) rfl ?_
  refine z_aload rfl rfl ?_
  refine z_dup rfl rfl ?_
  refine z_getI (v := 39) rfl rfl ((zU_n (by decide)).trans ((zU_n (by decide)).trans ((zU_n (by decide)).trans ((zU_n (by decide)).trans ((zC_n (by decide)).trans ((zC_n (by decide)).trans ((zC_n (by decide)).trans ((zC_n (by decide)).trans (zU_e))))))))) ?_
  refine z_pushI (z := 1) rfl rfl ?_
  refine z_iadd (e := 40) rfl rfl ?_
  refine z_putI (y := 5) rfl rfl rfl ?_
  refine z_aload rfl rfl ?_
  refine z_aload rfl rfl ?_
  refine z_getI (v := 40) rfl rfl (zU_e) ?_
  refine z_putI (y := 6) rfl rfl rfl ?_
  refine z_vret rfl rfl ?_
  show zW _ _ _ _ _ _ _ _ _ _
  refine z_aload rfl rfl ?_
  refine z_getR (r := 8) rfl rfl (hR _ rm_0_1) ?_
  refine z_iload rfl rfl ?_
  refine z_iload rfl rfl ?_
  refine z_iload rfl rfl ?_
  refine z_callVx (As := [_, _, _]) rfl rfl rfl (Nat.le_of_ble_eq_true rfl) (Nat.le_of_ble_eq_true rfl) (tell_p (n := J 8 2) hR rfl yn hp (by decide) (by omega)) ?_
  show zW _ _ _ _ _ _ _ _ _ _
  refine z_iload rfl rfl ?_
  refine z_iret rfl rfl ?_
  refine ⟨_, rfl, ?_⟩
  show zW _ _ _ _ [some (.ref 50), some (zi p), some (zi 1), some (zi v)] _ _ _ _ _
  refine z_aload rfl rfl ?_
  refine z_iload rfl rfl ?_
  refine z_iload rfl rfl ?_
  refine z_callVP (As := [_, _]) (v := 1) rfl rfl rfl (Nat.le_of_ble_eq_true rfl) (Nat.le_of_ble_eq_true rfl) (isOne_1 hRr y2.symm yn hp (by decide) hV) ?_
  refine z_if_eqF rfl (by decide) (by decide) ?_
  refine z_iload rfl rfl ?_
  refine z_iload rfl rfl ?_
  refine z_callSP (As := [_, _]) (v := 1) rfl rfl (Nat.le_of_ble_eq_true rfl) (Nat.le_of_ble_eq_true rfl) (mayBe_1 hv (by decide) (by omega) hf) ?_
  refine z_if_eqF rfl (by decide) (by decide) ?_
  refine z_aload rfl rfl ?_
  refine z_iload rfl rfl ?_
  refine z_iload rfl rfl ?_
  refine z_iload rfl rfl ?_
  refine z_callVi (As := [_, _, _]) (le := [some _, some _, some _, some _, none, none]) rfl rfl rfl (Nat.le_of_ble_eq_true rfl) (Nat.le_of_ble_eq_true rfl) rfl ?_
  refine z_aload rfl rfl ?_
  refine z_iload rfl rfl ?_
  refine z_iload rfl rfl ?_
  refine z_callVP (As := [_, _]) (v := (cN J) p (1)) rfl rfl rfl (Nat.le_of_ble_eq_true rfl) (Nat.le_of_ble_eq_true rfl) (valueAt_s hRr ((rN_z (zK_x (a := 9) (x := p * 5 + 1) (v := v) (zK_x (a := 29) (x := 6) (v := 40) (zK_x (a := 29) (x := 5) (v := 40) (zK_x (a := 33) (x := 39) (v := v) (zK_x (a := 32) (x := 39) (v := (cN J) p (1)) (zK_x (a := 31) (x := 39) (v := 1) (zK_x (a := 30) (x := 39) (v := p) (zK_c (a := 33) (b := 33) (sp := 1) (dp := 0) (n := 39) (zK_c (a := 32) (b := 32) (sp := 1) (dp := 0) (n := 39) (zK_c (a := 31) (b := 31) (sp := 1) (dp := 0) (n := 39) (zK_c (a := 30) (b := 30) (sp := 1) (dp := 0) (n := 39) (zK_x (a := 29) (x := 5) (v := 39) (zK_r (k := kHi) (A := J)) rfl) (fun _ => rfl)) (fun _ => rfl)) (fun _ => rfl)) (fun _ => rfl)) rfl) rfl) rfl) rfl) rfl) rfl) rfl)).trans y1.symm) y2.symm y3 hp (by decide) hV) ?_
  refine z_istore rfl rfl ?_
  refine z_iload rfl rfl ?_
  refine z_iload rfl rfl ?_
  refine z_icmp_neT rfl (by omega) (by omega) (by omega) ?_
  refine z_aload rfl rfl ?_
  refine z_pushI (z := 0) rfl rfl ?_
  refine z_putI (y := 9) rfl rfl rfl ?_
  refine z_aload rfl rfl ?_
  refine z_getI (v := 40) rfl rfl ((zU_x (by decide)).trans ((zU_n (by decide)).trans ((zU_n (by decide)).trans ((zU_n (by decide)).trans ((zU_n (by decide)).trans ((zU_n (by decide)).trans ((zU_n (by decide)).trans ((zU_n (by decide)).trans ((zC_n (by decide)).trans ((zC_n (by decide)).trans ((zC_n (by decide)).trans ((zC_n (by decide)).trans ((zU_n (by decide)).trans (c1.symm.trans h40)))))))))))))) ?_
  refine z_pushI (z := 40) rfl rfl ?_
  refine z_icmp_neF rfl (by decide) (by decide) (by decide) ?_
  refine z_pushI (z := 1) rfl rfl ?_
  refine z_istore rfl rfl ?_
  show zW _ _ _ _ [some (.ref 50), some (zi 1), some (zi p), some (zi v), some (zi ((cN J) p (1))), some (zi 1)] [] _ _ _ _
  refine zC4_in ?_
  refine shift40_z hRr 39 0 (by decide) (by decide) ?_
  refine z_aload rfl rfl ?_
  refine z_dup rfl rfl ?_
  refine z_getI (v := 40) rfl rfl ((zC_n (by decide)).trans ((zC_n (by decide)).trans ((zC_n (by decide)).trans ((zC_n (by decide)).trans ((zU_x (by decide)).trans ((zU_n (by decide)).trans ((zU_n (by decide)).trans ((zU_n (by decide)).trans ((zU_n (by decide)).trans ((zU_n (by decide)).trans ((zU_n (by decide)).trans ((zU_n (by decide)).trans ((zC_n (by decide)).trans ((zC_n (by decide)).trans ((zC_n (by decide)).trans ((zC_n (by decide)).trans ((zU_n (by decide)).trans (c1.symm.trans h40)))))))))))))))))) ?_
  refine z_pushI (z := 1) rfl rfl ?_
  refine z_isub (e := 39) rfl rfl ?_
  refine z_putI (y := 8) rfl rfl rfl ?_
  refine z_aload rfl rfl ?_
  refine z_getR (r := 57) rfl rfl (hRr _ rm_50_10 (by decide)) ?_
  refine z_aload rfl rfl ?_
  refine z_getI (v := 39) rfl rfl (zU_e) ?_
  refine z_iload rfl rfl ?_
  refine z_iast (e := 1) rfl rfl (by decide) (by decide) rfl ?_
  refine z_aload rfl rfl ?_
  refine z_getR (r := 58) rfl rfl (hRr _ rm_50_11 (by decide)) ?_
  refine z_aload rfl rfl ?_
  refine z_getI (v := 39) rfl rfl ((zU_n (by decide)).trans (zU_e)) ?_
  refine z_iload rfl rfl ?_
  refine z_iast (e := p) rfl rfl (by decide) (by decide) rfl ?_
  refine z_aload rfl rfl ?_
  refine z_getR (r := 59) rfl rfl (hRr _ rm_50_12 (by decide)) ?_
  refine z_aload rfl rfl ?_
  refine z_getI (v := 39) rfl rfl ((zU_n (by decide)).trans ((zU_n (by decide)).trans (zU_e))) ?_
  refine z_iload rfl rfl ?_
  refine z_iast (e := (cN J) p (1)) rfl rfl (by decide) (by decide) rfl ?_
  refine z_aload rfl rfl ?_
  refine z_getR (r := 60) rfl rfl (hRr _ rm_50_13 (by decide)) ?_
  refine z_aload rfl rfl ?_
  refine z_getI (v := 39) rfl rfl ((zU_n (by decide)).trans ((zU_n (by decide)).trans ((zU_n (by decide)).trans (zU_e)))) ?_
  refine z_iload rfl rfl ?_
  refine z_iast (e := v) rfl rfl (by decide) (by decide) rfl ?_
  refine z_aload rfl rfl ?_
  refine z_dup rfl rfl ?_
  refine z_getI (v := 39) rfl rfl ((zU_n (by decide)).trans ((zU_n (by decide)).trans ((zU_n (by decide)).trans ((zU_n (by decide)).trans (zU_e))))) ?_
  refine z_pushI (z := 1) rfl rfl ?_
  refine z_iadd (e := 40) rfl rfl ?_
  refine z_putI (y := 8) rfl rfl rfl ?_
  refine z_aload rfl rfl ?_
  refine z_iload rfl rfl ?_
  refine z_iload rfl rfl ?_
  refine z_iload rfl rfl ?_
  refine z_callVx (As := [_, _, _]) rfl rfl rfl (Nat.le_of_ble_eq_true rfl) (Nat.le_of_ble_eq_true rfl) (lays_p (n := J 8 2) hRr y2.symm yn hp (by decide) (by omega)) ?_
  show zW _ _ _ _ _ _ _ _ _ _
  refine z_iload rfl rfl ?_
  refine z_iret rfl rfl ?_
  show zW _ _ _ _ _ _ _ _ _ _
  refine z_goto rfl ?_
  refine z_iret rfl rfl ?_
  refine ⟨?_, ?_⟩
  · first | rfl | exact congrArg (fun v => some (zi v)) (by omega) | (exfalso; omega)
  · have hs := (zK_u (a := 52) (x := p) (v := v) (zK_x (a := 50) (x := 8) (v := 40) (zK_x (a := 60) (x := 39) (v := v) (zK_x (a := 59) (x := 39) (v := (cN J) p (1)) (zK_x (a := 58) (x := 39) (v := p) (zK_x (a := 57) (x := 39) (v := 1) (zK_x (a := 50) (x := 8) (v := 39) (zK_c (a := 60) (b := 60) (sp := 1) (dp := 0) (n := 39) (zK_c (a := 59) (b := 59) (sp := 1) (dp := 0) (n := 39) (zK_c (a := 58) (b := 58) (sp := 1) (dp := 0) (n := 39) (zK_c (a := 57) (b := 57) (sp := 1) (dp := 0) (n := 39) (zK_x (a := 50) (x := 9) (v := 0) (zK_u (a := 9) (x := p * 5 + 1) (v := v) (zK_x (a := 29) (x := 6) (v := 40) (zK_x (a := 29) (x := 5) (v := 40) (zK_x (a := 33) (x := 39) (v := v) (zK_x (a := 32) (x := 39) (v := (cN J) p (1)) (zK_x (a := 31) (x := 39) (v := 1) (zK_x (a := 30) (x := 39) (v := p) (zK_c (a := 33) (b := 33) (sp := 1) (dp := 0) (n := 39) (zK_c (a := 32) (b := 32) (sp := 1) (dp := 0) (n := 39) (zK_c (a := 31) (b := 31) (sp := 1) (dp := 0) (n := 39) (zK_c (a := 30) (b := 30) (sp := 1) (dp := 0) (n := 39) (zK_x (a := 29) (x := 5) (v := 39) (zK_r (k := (kL [30, 31, 32, 33, 57, 58, 59, 60] [(29, 5), (30, 39), (31, 39), (32, 39), (33, 39), (29, 6), (50, 9), (50, 8), (57, 39), (58, 39), (59, 39), (60, 39)])) (A := J)) rfl) (fun _ => rfl)) (fun _ => rfl)) (fun _ => rfl)) (fun _ => rfl)) rfl) rfl) rfl) rfl) rfl) rfl)) rfl) (fun _ => rfl)) (fun _ => rfl)) (fun _ => rfl)) (fun _ => rfl)) rfl) rfl) rfl) rfl) rfl) rfl))
    have hY2 := RelY_k hs (by repeat' constructor) (fun p => by repeat' constructor) (RelY_p (p := p) (w := 1) hY (by omega) (by omega) hf2 (by omega) rfl rfl)
    have hok : zOkc (J 8 2) p (1) ((cN J) p (1)) v := ⟨hV, nf, hf2⟩
    have hk := (zK_x (a := 52) (x := p) (v := v) (zK_x (a := 50) (x := 8) (v := 40) (zK_x (a := 60) (x := 39) (v := v) (zK_x (a := 59) (x := 39) (v := (cN J) p (1)) (zK_x (a := 58) (x := 39) (v := p) (zK_x (a := 57) (x := 39) (v := 1) (zK_x (a := 50) (x := 8) (v := 39) (zK_c (a := 60) (b := 60) (sp := 1) (dp := 0) (n := 39) (zK_c (a := 59) (b := 59) (sp := 1) (dp := 0) (n := 39) (zK_c (a := 58) (b := 58) (sp := 1) (dp := 0) (n := 39) (zK_c (a := 57) (b := 57) (sp := 1) (dp := 0) (n := 39) (zK_x (a := 50) (x := 9) (v := 0) (zK_x (a := 9) (x := p * 5 + 1) (v := v) (zK_x (a := 29) (x := 6) (v := 40) (zK_x (a := 29) (x := 5) (v := 40) (zK_x (a := 33) (x := 39) (v := v) (zK_x (a := 32) (x := 39) (v := (cN J) p (1)) (zK_x (a := 31) (x := 39) (v := 1) (zK_x (a := 30) (x := 39) (v := p) (zK_c (a := 33) (b := 33) (sp := 1) (dp := 0) (n := 39) (zK_c (a := 32) (b := 32) (sp := 1) (dp := 0) (n := 39) (zK_c (a := 31) (b := 31) (sp := 1) (dp := 0) (n := 39) (zK_c (a := 30) (b := 30) (sp := 1) (dp := 0) (n := 39) (zK_x (a := 29) (x := 5) (v := 39) (zK_r (k := (kL [30, 31, 32, 33, 9, 57, 58, 59, 60, 52] [(29, 5), (30, 39), (31, 39), (32, 39), (33, 39), (29, 6), (50, 9), (50, 8), (57, 39), (58, 39), (59, 39), (60, 39)])) (A := J)) rfl) (fun _ => rfl)) (fun _ => rfl)) (fun _ => rfl)) (fun _ => rfl)) rfl) rfl) rfl) rfl) rfl) rfl) rfl) rfl) (fun _ => rfl)) (fun _ => rfl)) (fun _ => rfl)) (fun _ => rfl)) rfl) rfl) rfl) rfl) rfl) rfl) rfl)
    exact ⟨hR, hG, hY2, RelD_k hk (by repeat' constructor) (fun p => by repeat' constructor) hD, RelP_k hk (by repeat' constructor) (fun p => by repeat' constructor) hP, (RelC_mk (K := J) (d := 39) (o := 1) rfl rfl rfl rfl (by decide) (by decide) rfl rfl hC (by omega) (fun i i1 i2 => ⟨⟨(zU_n (by decide)).trans ((zU_n (by decide)).trans ((zU_n (by decide)).trans ((zU_n (by decide)).trans ((zU_n (by decide)).trans ((zU_n (by decide)).trans ((zU_n (by decide)).trans ((zC_n (by decide)).trans ((zC_n (by decide)).trans ((zC_n (by decide)).trans ((zC_n (by decide)).trans ((zU_n (by decide)).trans ((zU_n (by decide)).trans ((zU_n (by decide)).trans ((zU_n (by decide)).trans ((zU_n (by decide)).trans ((zU_n (by decide)).trans ((zU_n (by decide)).trans ((zU_x (by omega)).trans ((zC_n (by decide)).trans ((zC_n (by decide)).trans ((zC_n (by decide)).trans ((zC_sh (by omega)).trans ((zU_n (by decide)).trans (rfl)))))))))))))))))))))))), (zU_n (by decide)).trans ((zU_n (by decide)).trans ((zU_n (by decide)).trans ((zU_n (by decide)).trans ((zU_n (by decide)).trans ((zU_n (by decide)).trans ((zU_n (by decide)).trans ((zC_n (by decide)).trans ((zC_n (by decide)).trans ((zC_n (by decide)).trans ((zC_n (by decide)).trans ((zU_n (by decide)).trans ((zU_n (by decide)).trans ((zU_n (by decide)).trans ((zU_n (by decide)).trans ((zU_n (by decide)).trans ((zU_n (by decide)).trans ((zU_x (by omega)).trans ((zU_n (by decide)).trans ((zC_n (by decide)).trans ((zC_n (by decide)).trans ((zC_sh (by omega)).trans ((zC_n (by decide)).trans ((zU_n (by decide)).trans (rfl)))))))))))))))))))))))), (zU_n (by decide)).trans ((zU_n (by decide)).trans ((zU_n (by decide)).trans ((zU_n (by decide)).trans ((zU_n (by decide)).trans ((zU_n (by decide)).trans ((zU_n (by decide)).trans ((zC_n (by decide)).trans ((zC_n (by decide)).trans ((zC_n (by decide)).trans ((zC_n (by decide)).trans ((zU_n (by decide)).trans ((zU_n (by decide)).trans ((zU_n (by decide)).trans ((zU_n (by decide)).trans ((zU_n (by decide)).trans ((zU_x (by omega)).trans ((zU_n (by decide)).trans ((zU_n (by decide)).trans ((zC_n (by decide)).trans ((zC_sh (by omega)).trans ((zC_n (by decide)).trans ((zC_n (by decide)).trans ((zU_n (by decide)).trans (rfl)))))))))))))))))))))))), (zU_n (by decide)).trans ((zU_n (by decide)).trans ((zU_n (by decide)).trans ((zU_n (by decide)).trans ((zU_n (by decide)).trans ((zU_n (by decide)).trans ((zU_n (by decide)).trans ((zC_n (by decide)).trans ((zC_n (by decide)).trans ((zC_n (by decide)).trans ((zC_n (by decide)).trans ((zU_n (by decide)).trans ((zU_n (by decide)).trans ((zU_n (by decide)).trans ((zU_n (by decide)).trans ((zU_x (by omega)).trans ((zU_n (by decide)).trans ((zU_n (by decide)).trans ((zU_n (by decide)).trans ((zC_sh (by omega)).trans ((zC_n (by decide)).trans ((zC_n (by decide)).trans ((zC_n (by decide)).trans ((zU_n (by decide)).trans (rfl))))))))))))))))))))))))⟩, ⟨(zU_n (by decide)).trans ((zU_n (by decide)).trans ((zU_n (by decide)).trans ((zU_n (by decide)).trans ((zU_x (by omega)).trans ((zU_n (by decide)).trans ((zU_n (by decide)).trans ((zC_n (by decide)).trans ((zC_n (by decide)).trans ((zC_sh (by omega)).trans ((zC_n (by decide)).trans ((zU_n (by decide)).trans ((zU_n (by decide)).trans ((zU_n (by decide)).trans ((zU_n (by decide)).trans ((zU_n (by decide)).trans ((zU_n (by decide)).trans ((zU_n (by decide)).trans ((zU_n (by decide)).trans ((zC_n (by decide)).trans ((zC_n (by decide)).trans ((zC_n (by decide)).trans ((zC_n (by decide)).trans ((zU_n (by decide)).trans (rfl)))))))))))))))))))))))), (zU_n (by decide)).trans ((zU_n (by decide)).trans ((zU_n (by decide)).trans ((zU_n (by decide)).trans ((zU_n (by decide)).trans ((zU_x (by omega)).trans ((zU_n (by decide)).trans ((zC_n (by decide)).trans ((zC_n (by decide)).trans ((zC_n (by decide)).trans ((zC_sh (by omega)).trans ((zU_n (by decide)).trans ((zU_n (by decide)).trans ((zU_n (by decide)).trans ((zU_n (by decide)).trans ((zU_n (by decide)).trans ((zU_n (by decide)).trans ((zU_n (by decide)).trans ((zU_n (by decide)).trans ((zC_n (by decide)).trans ((zC_n (by decide)).trans ((zC_n (by decide)).trans ((zC_n (by decide)).trans ((zU_n (by decide)).trans (rfl)))))))))))))))))))))))), (zU_n (by decide)).trans ((zU_n (by decide)).trans ((zU_n (by decide)).trans ((zU_x (by omega)).trans ((zU_n (by decide)).trans ((zU_n (by decide)).trans ((zU_n (by decide)).trans ((zC_n (by decide)).trans ((zC_sh (by omega)).trans ((zC_n (by decide)).trans ((zC_n (by decide)).trans ((zU_n (by decide)).trans ((zU_n (by decide)).trans ((zU_n (by decide)).trans ((zU_n (by decide)).trans ((zU_n (by decide)).trans ((zU_n (by decide)).trans ((zU_n (by decide)).trans ((zU_n (by decide)).trans ((zC_n (by decide)).trans ((zC_n (by decide)).trans ((zC_n (by decide)).trans ((zC_n (by decide)).trans ((zU_n (by decide)).trans (rfl)))))))))))))))))))))))), (zU_n (by decide)).trans ((zU_n (by decide)).trans ((zU_x (by omega)).trans ((zU_n (by decide)).trans ((zU_n (by decide)).trans ((zU_n (by decide)).trans ((zU_n (by decide)).trans ((zC_sh (by omega)).trans ((zC_n (by decide)).trans ((zC_n (by decide)).trans ((zC_n (by decide)).trans ((zU_n (by decide)).trans ((zU_n (by decide)).trans ((zU_n (by decide)).trans ((zU_n (by decide)).trans ((zU_n (by decide)).trans ((zU_n (by decide)).trans ((zU_n (by decide)).trans ((zU_n (by decide)).trans ((zC_n (by decide)).trans ((zC_n (by decide)).trans ((zC_n (by decide)).trans ((zC_n (by decide)).trans ((zU_n (by decide)).trans (rfl))))))))))))))))))))))))⟩⟩) ((zU_n (by decide)).trans ((zU_n (by decide)).trans ((zU_n (by decide)).trans ((zU_n (by decide)).trans ((zU_n (by decide)).trans ((zU_n (by decide)).trans ((zU_n (by decide)).trans ((zC_n (by decide)).trans ((zC_n (by decide)).trans ((zC_n (by decide)).trans ((zC_n (by decide)).trans ((zU_n (by decide)).trans ((zU_n (by decide)).trans ((zU_n (by decide)).trans ((zU_n (by decide)).trans ((zU_n (by decide)).trans ((zU_n (by decide)).trans ((zU_n (by decide)).trans (zU_e))))))))))))))))))) ((zU_n (by decide)).trans ((zU_n (by decide)).trans ((zU_n (by decide)).trans ((zU_n (by decide)).trans ((zU_n (by decide)).trans ((zU_n (by decide)).trans ((zU_n (by decide)).trans ((zC_n (by decide)).trans ((zC_n (by decide)).trans ((zC_n (by decide)).trans ((zC_n (by decide)).trans ((zU_n (by decide)).trans ((zU_n (by decide)).trans ((zU_n (by decide)).trans ((zU_n (by decide)).trans ((zU_n (by decide)).trans ((zU_n (by decide)).trans (zU_e)))))))))))))))))) ((zU_n (by decide)).trans ((zU_n (by decide)).trans ((zU_n (by decide)).trans ((zU_n (by decide)).trans ((zU_n (by decide)).trans ((zU_n (by decide)).trans ((zU_n (by decide)).trans ((zC_n (by decide)).trans ((zC_n (by decide)).trans ((zC_n (by decide)).trans ((zC_n (by decide)).trans ((zU_n (by decide)).trans ((zU_n (by decide)).trans ((zU_n (by decide)).trans ((zU_n (by decide)).trans ((zU_n (by decide)).trans (zU_e))))))))))))))))) ((zU_n (by decide)).trans ((zU_n (by decide)).trans ((zU_n (by decide)).trans ((zU_n (by decide)).trans ((zU_n (by decide)).trans ((zU_n (by decide)).trans ((zU_n (by decide)).trans ((zC_n (by decide)).trans ((zC_n (by decide)).trans ((zC_n (by decide)).trans ((zC_n (by decide)).trans ((zU_n (by decide)).trans ((zU_n (by decide)).trans ((zU_n (by decide)).trans ((zU_n (by decide)).trans (zU_e)))))))))))))))) ((zU_n (by decide)).trans ((zU_n (by decide)).trans ((zU_n (by decide)).trans ((zU_n (by decide)).trans (zU_e))))) ((zU_n (by decide)).trans ((zU_n (by decide)).trans ((zU_n (by decide)).trans ((zU_n (by decide)).trans ((zU_n (by decide)).trans (zU_e)))))) ((zU_n (by decide)).trans ((zU_n (by decide)).trans ((zU_n (by decide)).trans (zU_e)))) ((zU_n (by decide)).trans ((zU_n (by decide)).trans (zU_e))) hok), RelA_k hk (by repeat' constructor) (fun p => by repeat' constructor) hAc, RelS_k hk (zK_r (k := kM)) (fun x j a b => ⟨kL_38 (by decide) (by decide) x j a b, kM_38 x j a b⟩) (fun p => ⟨rfl, rfl, rfl⟩) rfl hS, RelT_k hk (by repeat' constructor) (fun p => by repeat' constructor) hTp, RelX_k hk (by repeat' constructor) (fun p => by repeat' constructor) hX, RelW_k hk ⟨rfl, rfl⟩ trivial hW⟩
theorem st_mend4_p2 {X : Nat × (Nat → Int32)} {d : Nat} {J M : zA} {R : zR} {p v : Int} (hr : Rel X J M R) (hp : -2147483648 ≤ p ∧ p < 2147483648) (hv : -2147483648 ≤ v ∧ v < 2147483648) (hV : zV (J 8 2) p (2)) (hf : zT 2 (2) ≤ v ∧ v ≤ zT 3 (2)) (he : ¬ (cN J) p (2) = v) (h40 : J 29 5 = 40) : zW X (d + 20) 104 0 (gEn 104 [(.ref 0), (zi p), (zi 2), (zi v)]) [] J M R (stP X (d + 20) 162 [(zi p), (zi 2), (zi v)]) := by
  have hr0 := hr
  obtain ⟨hR, hG, hY, hD, hP, hC, hAc, hS, hTp, hX, hW⟩ := hr0
  have hRr : zRoR R := zRoR_of hR
  have hY0 := hY
  obtain ⟨y1, y2, y3⟩ := hY0
  have yn := zNn y3
  have hC0 := hC
  obtain ⟨c1, c2, c3, c4, c5, c6⟩ := hC0
  have nr := zN_r y3 hV
  have nf := zN_fit y3 hV
  have hf2 : zFit (2) v := hf
  show zW _ _ _ _ [some (.ref 0), some (zi p), some (zi 2), some (zi v), none] _ _ _ _ _
  refine z_aload rfl rfl ?_
  refine z_getR (r := 8) rfl rfl (hR _ rm_0_1) ?_
  refine z_iload rfl rfl ?_
  refine z_iload rfl rfl ?_
  refine z_callVP (As := [_, _]) (v := 1) rfl rfl rfl (Nat.le_of_ble_eq_true rfl) (Nat.le_of_ble_eq_true rfl) (isNumber_1 hR rfl yn hp (by decide) hV) ?_
  refine z_if_eqF rfl (by decide) (by decide) ?_
  refine z_iload rfl rfl ?_
  refine z_iload rfl rfl ?_
  refine z_callSP (As := [_, _]) (v := 1) rfl rfl (Nat.le_of_ble_eq_true rfl) (Nat.le_of_ble_eq_true rfl) (isFit_1 hv (by decide) (by omega) hf) ?_
  refine z_if_neT rfl (by decide) (by decide) ?_
  refine z_aload rfl rfl ?_
  refine z_getR (r := 8) rfl rfl (hR _ rm_0_1) ?_
  refine z_iload rfl rfl ?_
  refine z_iload rfl rfl ?_
  refine z_callVP (As := [_, _]) (v := (cN J) p (2)) rfl rfl rfl (Nat.le_of_ble_eq_true rfl) (Nat.le_of_ble_eq_true rfl) (told_k hR zK_r rfl rfl y3 hp (by decide)) ?_
  refine z_istore rfl rfl ?_
  refine z_iload rfl rfl ?_
  refine z_iload rfl rfl ?_
  refine z_icmp_eqF rfl (by omega) (by omega) (by omega) ?_
  refine z_aload rfl rfl ?_
  refine z_getR (r := 29) rfl rfl (hR _ rm_0_9) ?_
  refine z_iload rfl rfl ?_
  refine z_iload rfl rfl ?_
  refine z_iload rfl rfl ?_
  refine z_iload rfl rfl ?_
  refine z_callVi (As := [_, _, _, _]) (le := [some _, some _, some _, some _, some _]) rfl rfl rfl (Nat.le_of_ble_eq_true rfl) (Nat.le_of_ble_eq_true rfl) rfl ?_
  refine z_aload rfl rfl ?_
  refine z_getI (v := 40) rfl rfl (h40) ?_
  refine z_pushI (z := 40) rfl rfl ?_
  refine z_icmp_ltF rfl (by decide) (by decide) (by decide) ?_
  refine z_aload rfl rfl ?_
  refine z_callVi (As := []) (le := [some _]) rfl rfl rfl (Nat.le_of_ble_eq_true rfl) (Nat.le_of_ble_eq_true rfl) rfl ?_
  refine z_aload rfl rfl ?_
  refine z_pushI (z := 39) rfl rfl ?_
  refine z_putI (y := 5) rfl rfl rfl ?_
  refine z_aload rfl rfl ?_
  refine z_getR (r := 30) rfl rfl (hR _ rm_29_1) ?_
  refine z_pushI (z := 1) rfl rfl ?_
  refine z_aload rfl rfl ?_
  refine z_getR (r := 30) rfl rfl (hR _ rm_29_1) ?_
  refine z_pushI (z := 0) rfl rfl ?_
  refine z_aload rfl rfl ?_
  refine z_getI (v := 39) rfl rfl (zU_e) ?_
  refine z_copyI rfl rfl rfl (by decide) (by decide) (by decide) (by decide) (by decide) (by decide) (by decide) (by decide) ?_
  refine z_aload rfl rfl ?_
  refine z_getR (r := 31) rfl rfl (hR _ rm_29_2) ?_
  refine z_pushI (z := 1) rfl rfl ?_
  refine z_aload rfl rfl ?_
  refine z_getR (r := 31) rfl rfl (hR _ rm_29_2) ?_
  refine z_pushI (z := 0) rfl rfl ?_
  refine z_aload rfl rfl ?_
  refine z_getI (v := 39) rfl rfl ((zC_n (by decide)).trans (zU_e)) ?_
  refine z_copyI rfl rfl rfl (by decide) (by decide) (by decide) (by decide) (by decide) (by decide) (by decide) (by decide) ?_
  refine z_aload rfl rfl ?_
  refine z_getR (r := 32) rfl rfl (hR _ rm_29_3) ?_
  refine z_pushI (z := 1) rfl rfl ?_
  refine z_aload rfl rfl ?_
  refine z_getR (r := 32) rfl rfl (hR _ rm_29_3) ?_
  refine z_pushI (z := 0) rfl rfl ?_
  refine z_aload rfl rfl ?_
  refine z_getI (v := 39) rfl rfl ((zC_n (by decide)).trans ((zC_n (by decide)).trans (zU_e))) ?_
  refine z_copyI rfl rfl rfl (by decide) (by decide) (by decide) (by decide) (by decide) (by decide) (by decide) (by decide) ?_
  refine z_aload rfl rfl ?_
  refine z_getR (r := 33) rfl rfl (hR _ rm_29_4) ?_
  refine z_pushI (z := 1) rfl rfl ?_
  refine z_aload rfl rfl ?_
  refine z_getR (r := 33) rfl rfl (hR _ rm_29_4) ?_
  refine z_pushI (z := 0) rfl rfl ?_
  refine z_aload rfl rfl ?_
  refine z_getI (v := 39) rfl rfl ((zC_n (by decide)).trans ((zC_n (by decide)).trans ((zC_n (by decide)).trans (zU_e)))) ?_
  refine z_copyI rfl rfl rfl (by decide) (by decide) (by decide) (by decide) (by decide) (by decide) (by decide) (by decide) ?_
  refine z_vret rfl rfl ?_
  show zW _ _ _ _ _ _ _ _ _ _
  refine z_aload rfl rfl ?_
  refine z_getR (r := 30) rfl rfl (hR _ rm_29_1) ?_
  refine z_aload rfl rfl ?_
  refine z_getI (v := 39) rfl rfl ((zC_n (by decide)).trans ((zC_n (by decide)).trans ((zC_n (by decide)).trans ((zC_n (by decide)).trans (zU_e))))) ?_
  refine z_iload rfl rfl ?_
  refine z_iast (e := p) rfl rfl (by decide) (by decide) rfl ?_
  refine z_aload rfl rfl ?_
  refine z_getR (r := 31) rfl rfl (hR _ rm_29_2) ?_
  refine z_aload rfl rfl ?_
  refine z_getI (v := 39) rfl rfl ((zU_n (by decide)).trans ((zC_n (by decide)).trans ((zC_n (by decide)).trans ((zC_n (by decide)).trans ((zC_n (by decide)).trans (zU_e)))))) ?_
  refine z_iload rfl rfl ?_
  refine z_iast (e := 2) rfl rfl (by decide) (by decide) rfl ?_
  refine z_aload rfl rfl ?_
  refine z_getR (r := 32) rfl rfl (hR _ rm_29_3) ?_
  refine z_aload rfl rfl ?_
  refine z_getI (v := 39) rfl rfl ((zU_n (by decide)).trans ((zU_n (by decide)).trans ((zC_n (by decide)).trans ((zC_n (by decide)).trans ((zC_n (by decide)).trans ((zC_n (by decide)).trans (zU_e))))))) ?_
  refine z_iload rfl rfl ?_
  refine z_iast (e := (cN J) p (2)) rfl rfl (by decide) (by decide) rfl ?_
  refine z_aload rfl rfl ?_
  refine z_getR (r := 33) rfl rfl (hR _ rm_29_4) ?_
  refine z_aload rfl rfl ?_
  refine z_getI (v := 39) rfl rfl ((zU_n (by decide)).trans ((zU_n (by decide)).trans ((zU_n (by decide)).trans ((zC_n (by decide)).trans ((zC_n (by decide)).trans ((zC_n (by decide)).trans ((zC_n (by decide)).trans (zU_e)))))))) ?_
  refine z_iload rfl rfl ?_
  refine z_iast (e := v) rfl rfl (by decide) (by decide) rfl ?_
  refine z_aload rfl rfl ?_
  refine z_dup rfl rfl ?_
  refine z_getI (v := 39) rfl rfl ((zU_n (by decide)).trans ((zU_n (by decide)).trans ((zU_n (by decide)).trans ((zU_n (by decide)).trans ((zC_n (by decide)).trans ((zC_n (by decide)).trans ((zC_n (by decide)).trans ((zC_n (by decide)).trans (zU_e))))))))) ?_
  refine z_pushI (z := 1) rfl rfl ?_
  refine z_iadd (e := 40) rfl rfl ?_
  refine z_putI (y := 5) rfl rfl rfl ?_
  refine z_aload rfl rfl ?_
  refine z_aload rfl rfl ?_
  refine z_getI (v := 40) rfl rfl (zU_e) ?_
  refine z_putI (y := 6) rfl rfl rfl ?_
  refine z_vret rfl rfl ?_
  show zW _ _ _ _ _ _ _ _ _ _
  refine z_aload rfl rfl ?_
  refine z_getR (r := 8) rfl rfl (hR _ rm_0_1) ?_
  refine z_iload rfl rfl ?_
  refine z_iload rfl rfl ?_
  refine z_iload rfl rfl ?_
  refine z_callVx (As := [_, _, _]) rfl rfl rfl (Nat.le_of_ble_eq_true rfl) (Nat.le_of_ble_eq_true rfl) (tell_p (n := J 8 2) hR rfl yn hp (by decide) (by omega)) ?_
  show zW _ _ _ _ _ _ _ _ _ _
  refine z_iload rfl rfl ?_
  refine z_iret rfl rfl ?_
  refine ⟨_, rfl, ?_⟩
  show zW _ _ _ _ [some (.ref 50), some (zi p), some (zi 2), some (zi v)] _ _ _ _ _
  refine z_aload rfl rfl ?_
  refine z_iload rfl rfl ?_
  refine z_iload rfl rfl ?_
  refine z_callVP (As := [_, _]) (v := 1) rfl rfl rfl (Nat.le_of_ble_eq_true rfl) (Nat.le_of_ble_eq_true rfl) (isOne_1 hRr y2.symm yn hp (by decide) hV) ?_
  refine z_if_eqF rfl (by decide) (by decide) ?_
  refine z_iload rfl rfl ?_
  refine z_iload rfl rfl ?_
  refine z_callSP (As := [_, _]) (v := 1) rfl rfl (Nat.le_of_ble_eq_true rfl) (Nat.le_of_ble_eq_true rfl) (mayBe_1 hv (by decide) (by omega) hf) ?_
  refine z_if_eqF rfl (by decide) (by decide) ?_
  refine z_aload rfl rfl ?_
  refine z_iload rfl rfl ?_
  refine z_iload rfl rfl ?_
  refine z_iload rfl rfl ?_
  refine z_callVi (As := [_, _, _]) (le := [some _, some _, some _, some _, none, none]) rfl rfl rfl (Nat.le_of_ble_eq_true rfl) (Nat.le_of_ble_eq_true rfl) rfl ?_
  refine z_aload rfl rfl ?_
  refine z_iload rfl rfl ?_
  refine z_iload rfl rfl ?_
  refine z_callVP (As := [_, _]) (v := (cN J) p (2)) rfl rfl rfl (Nat.le_of_ble_eq_true rfl) (Nat.le_of_ble_eq_true rfl) (valueAt_s hRr ((rN_z (zK_x (a := 9) (x := p * 5 + 2) (v := v) (zK_x (a := 29) (x := 6) (v := 40) (zK_x (a := 29) (x := 5) (v := 40) (zK_x (a := 33) (x := 39) (v := v) (zK_x (a := 32) (x := 39) (v := (cN J) p (2)) (zK_x (a := 31) (x := 39) (v := 2) (zK_x (a := 30) (x := 39) (v := p) (zK_c (a := 33) (b := 33) (sp := 1) (dp := 0) (n := 39) (zK_c (a := 32) (b := 32) (sp := 1) (dp := 0) (n := 39) (zK_c (a := 31) (b := 31) (sp := 1) (dp := 0) (n := 39) (zK_c (a := 30) (b := 30) (sp := 1) (dp := 0) (n := 39) (zK_x (a := 29) (x := 5) (v := 39) (zK_r (k := kHi) (A := J)) rfl) (fun _ => rfl)) (fun _ => rfl)) (fun _ => rfl)) (fun _ => rfl)) rfl) rfl) rfl) rfl) rfl) rfl) rfl)).trans y1.symm) y2.symm y3 hp (by decide) hV) ?_
  refine z_istore rfl rfl ?_
  refine z_iload rfl rfl ?_
  refine z_iload rfl rfl ?_
  refine z_icmp_neT rfl (by omega) (by omega) (by omega) ?_
  refine z_aload rfl rfl ?_
  refine z_pushI (z := 0) rfl rfl ?_
  refine z_putI (y := 9) rfl rfl rfl ?_
  refine z_aload rfl rfl ?_
  refine z_getI (v := 40) rfl rfl ((zU_x (by decide)).trans ((zU_n (by decide)).trans ((zU_n (by decide)).trans ((zU_n (by decide)).trans ((zU_n (by decide)).trans ((zU_n (by decide)).trans ((zU_n (by decide)).trans ((zU_n (by decide)).trans ((zC_n (by decide)).trans ((zC_n (by decide)).trans ((zC_n (by decide)).trans ((zC_n (by decide)).trans ((zU_n (by decide)).trans (c1.symm.trans h40)))))))))))))) ?_
  refine z_pushI (z := 40) rfl rfl ?_
  refine z_icmp_neF rfl (by decide) (by decide) (by decide) ?_
  refine z_pushI (z := 1) rfl rfl ?_
  refine z_istore rfl rfl ?_
  show zW _ _ _ _ [some (.ref 50), some (zi 2), some (zi p), some (zi v), some (zi ((cN J) p (2))), some (zi 1)] [] _ _ _ _
  refine zC4_in ?_
  refine shift40_z hRr 39 0 (by decide) (by decide) ?_
  refine z_aload rfl rfl ?_
  refine z_dup rfl rfl ?_
  refine z_getI (v := 40) rfl rfl ((zC_n (by decide)).trans ((zC_n (by decide)).trans ((zC_n (by decide)).trans ((zC_n (by decide)).trans ((zU_x (by decide)).trans ((zU_n (by decide)).trans ((zU_n (by decide)).trans ((zU_n (by decide)).trans ((zU_n (by decide)).trans ((zU_n (by decide)).trans ((zU_n (by decide)).trans ((zU_n (by decide)).trans ((zC_n (by decide)).trans ((zC_n (by decide)).trans ((zC_n (by decide)).trans ((zC_n (by decide)).trans ((zU_n (by decide)).trans (c1.symm.trans h40)))))))))))))))))) ?_
  refine z_pushI (z := 1) rfl rfl ?_
  refine z_isub (e := 39) rfl rfl ?_
  refine z_putI (y := 8) rfl rfl rfl ?_
  refine z_aload rfl rfl ?_
  refine z_getR (r := 57) rfl rfl (hRr _ rm_50_10 (by decide)) ?_
  refine z_aload rfl rfl ?_
  refine z_getI (v := 39) rfl rfl (zU_e) ?_
  refine z_iload rfl rfl ?_
  refine z_iast (e := 2) rfl rfl (by decide) (by decide) rfl ?_
  refine z_aload rfl rfl ?_
  refine z_getR (r := 58) rfl rfl (hRr _ rm_50_11 (by decide)) ?_
  refine z_aload rfl rfl ?_
  refine z_getI (v := 39) rfl rfl ((zU_n (by decide)).trans (zU_e)) ?_
  refine z_iload rfl rfl ?_
  refine z_iast (e := p) rfl rfl (by decide) (by decide) rfl ?_
  refine z_aload rfl rfl ?_
  refine z_getR (r := 59) rfl rfl (hRr _ rm_50_12 (by decide)) ?_
  refine z_aload rfl rfl ?_
  refine z_getI (v := 39) rfl rfl ((zU_n (by decide)).trans ((zU_n (by decide)).trans (zU_e))) ?_
  refine z_iload rfl rfl ?_
  refine z_iast (e := (cN J) p (2)) rfl rfl (by decide) (by decide) rfl ?_
  refine z_aload rfl rfl ?_
  refine z_getR (r := 60) rfl rfl (hRr _ rm_50_13 (by decide)) ?_
  refine z_aload rfl rfl ?_
  refine z_getI (v := 39) rfl rfl ((zU_n (by decide)).trans ((zU_n (by decide)).trans ((zU_n (by decide)).trans (zU_e)))) ?_
  refine z_iload rfl rfl ?_
  refine z_iast (e := v) rfl rfl (by decide) (by decide) rfl ?_
  refine z_aload rfl rfl ?_
  refine z_dup rfl rfl ?_
  refine z_getI (v := 39) rfl rfl ((zU_n (by decide)).trans ((zU_n (by decide)).trans ((zU_n (by decide)).trans ((zU_n (by decide)).trans (zU_e))))) ?_
  refine z_pushI (z := 1) rfl rfl ?_
  refine z_iadd (e := 40) rfl rfl ?_
  refine z_putI (y := 8) rfl rfl rfl ?_
  refine z_aload rfl rfl ?_
  refine z_iload rfl rfl ?_
  refine z_iload rfl rfl ?_
  refine z_iload rfl rfl ?_
  refine z_callVx (As := [_, _, _]) rfl rfl rfl (Nat.le_of_ble_eq_true rfl) (Nat.le_of_ble_eq_true rfl) (lays_p (n := J 8 2) hRr y2.symm yn hp (by decide) (by omega)) ?_
  show zW _ _ _ _ _ _ _ _ _ _
  refine z_iload rfl rfl ?_
  refine z_iret rfl rfl ?_
  show zW _ _ _ _ _ _ _ _ _ _
  refine z_goto rfl ?_
  refine z_iret rfl rfl ?_
  refine ⟨?_, ?_⟩
  · first | rfl | exact congrArg (fun v => some (zi v)) (by omega) | (exfalso; omega)
  · have hs := (zK_u (a := 53) (x := p) (v := v) (zK_x (a := 50) (x := 8) (v := 40) (zK_x (a := 60) (x := 39) (v := v) (zK_x (a := 59) (x := 39) (v := (cN J) p (2)) (zK_x (a := 58) (x := 39) (v := p) (zK_x (a := 57) (x := 39) (v := 2) (zK_x (a := 50) (x := 8) (v := 39) (zK_c (a := 60) (b := 60) (sp := 1) (dp := 0) (n := 39) (zK_c (a := 59) (b := 59) (sp := 1) (dp := 0) (n := 39) (zK_c (a := 58) (b := 58) (sp := 1) (dp := 0) (n := 39) (zK_c (a := 57) (b := 57) (sp := 1) (dp := 0) (n := 39) (zK_x (a := 50) (x := 9) (v := 0) (zK_u (a := 9) (x := p * 5 + 2) (v := v) (zK_x (a := 29) (x := 6) (v := 40) (zK_x (a := 29) (x := 5) (v := 40) (zK_x (a := 33) (x := 39) (v := v) (zK_x (a := 32) (x := 39) (v := (cN J) p (2)) (zK_x (a := 31) (x := 39) (v := 2) (zK_x (a := 30) (x := 39) (v := p) (zK_c (a := 33) (b := 33) (sp := 1) (dp := 0) (n := 39) (zK_c (a := 32) (b := 32) (sp := 1) (dp := 0) (n := 39) (zK_c (a := 31) (b := 31) (sp := 1) (dp := 0) (n := 39) (zK_c (a := 30) (b := 30) (sp := 1) (dp := 0) (n := 39) (zK_x (a := 29) (x := 5) (v := 39) (zK_r (k := (kL [30, 31, 32, 33, 57, 58, 59, 60] [(29, 5), (30, 39), (31, 39), (32, 39), (33, 39), (29, 6), (50, 9), (50, 8), (57, 39), (58, 39), (59, 39), (60, 39)])) (A := J)) rfl) (fun _ => rfl)) (fun _ => rfl)) (fun _ => rfl)) (fun _ => rfl)) rfl) rfl) rfl) rfl) rfl) rfl)) rfl) (fun _ => rfl)) (fun _ => rfl)) (fun _ => rfl)) (fun _ => rfl)) rfl) rfl) rfl) rfl) rfl) rfl))
    have hY2 := RelY_k hs (by repeat' constructor) (fun p => by repeat' constructor) (RelY_p (p := p) (w := 2) hY (by omega) (by omega) hf2 (by omega) rfl rfl)
    have hok : zOkc (J 8 2) p (2) ((cN J) p (2)) v := ⟨hV, nf, hf2⟩
    have hk := (zK_x (a := 53) (x := p) (v := v) (zK_x (a := 50) (x := 8) (v := 40) (zK_x (a := 60) (x := 39) (v := v) (zK_x (a := 59) (x := 39) (v := (cN J) p (2)) (zK_x (a := 58) (x := 39) (v := p) (zK_x (a := 57) (x := 39) (v := 2) (zK_x (a := 50) (x := 8) (v := 39) (zK_c (a := 60) (b := 60) (sp := 1) (dp := 0) (n := 39) (zK_c (a := 59) (b := 59) (sp := 1) (dp := 0) (n := 39) (zK_c (a := 58) (b := 58) (sp := 1) (dp := 0) (n := 39) (zK_c (a := 57) (b := 57) (sp := 1) (dp := 0) (n := 39) (zK_x (a := 50) (x := 9) (v := 0) (zK_x (a := 9) (x := p * 5 + 2) (v := v) (zK_x (a := 29) (x := 6) (v := 40) (zK_x (a := 29) (x := 5) (v := 40) (zK_x (a := 33) (x := 39) (v := v) (zK_x (a := 32) (x := 39) (v := (cN J) p (2)) (zK_x (a := 31) (x := 39) (v := 2) (zK_x (a := 30) (x := 39) (v := p) (zK_c (a := 33) (b := 33) (sp := 1) (dp := 0) (n := 39) (zK_c (a := 32) (b := 32) (sp := 1) (dp := 0) (n := 39) (zK_c (a := 31) (b := 31) (sp := 1) (dp := 0) (n := 39) (zK_c (a := 30) (b := 30) (sp := 1) (dp := 0) (n := 39) (zK_x (a := 29) (x := 5) (v := 39) (zK_r (k := (kL [30, 31, 32, 33, 9, 57, 58, 59, 60, 53] [(29, 5), (30, 39), (31, 39), (32, 39), (33, 39), (29, 6), (50, 9), (50, 8), (57, 39), (58, 39), (59, 39), (60, 39)])) (A := J)) rfl) (fun _ => rfl)) (fun _ => rfl)) (fun _ => rfl)) (fun _ => rfl)) rfl) rfl) rfl) rfl) rfl) rfl) rfl) rfl) (fun _ => rfl)) (fun _ => rfl)) (fun _ => rfl)) (fun _ => rfl)) rfl) rfl) rfl) rfl) rfl) rfl) rfl)
    exact ⟨hR, hG, hY2, RelD_k hk (by repeat' constructor) (fun p => by repeat' constructor) hD, RelP_k hk (by repeat' constructor) (fun p => by repeat' constructor) hP, (RelC_mk (K := J) (d := 39) (o := 1) rfl rfl rfl rfl (by decide) (by decide) rfl rfl hC (by omega) (fun i i1 i2 => ⟨⟨(zU_n (by decide)).trans ((zU_n (by decide)).trans ((zU_n (by decide)).trans ((zU_n (by decide)).trans ((zU_n (by decide)).trans ((zU_n (by decide)).trans ((zU_n (by decide)).trans ((zC_n (by decide)).trans ((zC_n (by decide)).trans ((zC_n (by decide)).trans ((zC_n (by decide)).trans ((zU_n (by decide)).trans ((zU_n (by decide)).trans ((zU_n (by decide)).trans ((zU_n (by decide)).trans ((zU_n (by decide)).trans ((zU_n (by decide)).trans ((zU_n (by decide)).trans ((zU_x (by omega)).trans ((zC_n (by decide)).trans ((zC_n (by decide)).trans ((zC_n (by decide)).trans ((zC_sh (by omega)).trans ((zU_n (by decide)).trans (rfl)))))))))))))))))))))))), (zU_n (by decide)).trans ((zU_n (by decide)).trans ((zU_n (by decide)).trans ((zU_n (by decide)).trans ((zU_n (by decide)).trans ((zU_n (by decide)).trans ((zU_n (by decide)).trans ((zC_n (by decide)).trans ((zC_n (by decide)).trans ((zC_n (by decide)).trans ((zC_n (by decide)).trans ((zU_n (by decide)).trans ((zU_n (by decide)).trans ((zU_n (by decide)).trans ((zU_n (by decide)).trans ((zU_n (by decide)).trans ((zU_n (by decide)).trans ((zU_x (by omega)).trans ((zU_n (by decide)).trans ((zC_n (by decide)).trans ((zC_n (by decide)).trans ((zC_sh (by omega)).trans ((zC_n (by decide)).trans ((zU_n (by decide)).trans (rfl)))))))))))))))))))))))), (zU_n (by decide)).trans ((zU_n (by decide)).trans ((zU_n (by decide)).trans ((zU_n (by decide)).trans ((zU_n (by decide)).trans ((zU_n (by decide)).trans ((zU_n (by decide)).trans ((zC_n (by decide)).trans ((zC_n (by decide)).trans ((zC_n (by decide)).trans ((zC_n (by decide)).trans ((zU_n (by decide)).trans ((zU_n (by decide)).trans ((zU_n (by decide)).trans ((zU_n (by decide)).trans ((zU_n (by decide)).trans ((zU_x (by omega)).trans ((zU_n (by decide)).trans ((zU_n (by decide)).trans ((zC_n (by decide)).trans ((zC_sh (by omega)).trans ((zC_n (by decide)).trans ((zC_n (by decide)).trans ((zU_n (by decide)).trans (rfl)))))))))))))))))))))))), (zU_n (by decide)).trans ((zU_n (by decide)).trans ((zU_n (by decide)).trans ((zU_n (by decide)).trans ((zU_n (by decide)).trans ((zU_n (by decide)).trans ((zU_n (by decide)).trans ((zC_n (by decide)).trans ((zC_n (by decide)).trans ((zC_n (by decide)).trans ((zC_n (by decide)).trans ((zU_n (by decide)).trans ((zU_n (by decide)).trans ((zU_n (by decide)).trans ((zU_n (by decide)).trans ((zU_x (by omega)).trans ((zU_n (by decide)).trans ((zU_n (by decide)).trans ((zU_n (by decide)).trans ((zC_sh (by omega)).trans ((zC_n (by decide)).trans ((zC_n (by decide)).trans ((zC_n (by decide)).trans ((zU_n (by decide)).trans (rfl))))))))))))))))))))))))⟩, ⟨(zU_n (by decide)).trans ((zU_n (by decide)).trans ((zU_n (by decide)).trans ((zU_n (by decide)).trans ((zU_x (by omega)).trans ((zU_n (by decide)).trans ((zU_n (by decide)).trans ((zC_n (by decide)).trans ((zC_n (by decide)).trans ((zC_sh (by omega)).trans ((zC_n (by decide)).trans ((zU_n (by decide)).trans ((zU_n (by decide)).trans ((zU_n (by decide)).trans ((zU_n (by decide)).trans ((zU_n (by decide)).trans ((zU_n (by decide)).trans ((zU_n (by decide)).trans ((zU_n (by decide)).trans ((zC_n (by decide)).trans ((zC_n (by decide)).trans ((zC_n (by decide)).trans ((zC_n (by decide)).trans ((zU_n (by decide)).trans (rfl)))))))))))))))))))))))), (zU_n (by decide)).trans ((zU_n (by decide)).trans ((zU_n (by decide)).trans ((zU_n (by decide)).trans ((zU_n (by decide)).trans ((zU_x (by omega)).trans ((zU_n (by decide)).trans ((zC_n (by decide)).trans ((zC_n (by decide)).trans ((zC_n (by decide)).trans ((zC_sh (by omega)).trans ((zU_n (by decide)).trans ((zU_n (by decide)).trans ((zU_n (by decide)).trans ((zU_n (by decide)).trans ((zU_n (by decide)).trans ((zU_n (by decide)).trans ((zU_n (by decide)).trans ((zU_n (by decide)).trans ((zC_n (by decide)).trans ((zC_n (by decide)).trans ((zC_n (by decide)).trans ((zC_n (by decide)).trans ((zU_n (by decide)).trans (rfl)))))))))))))))))))))))), (zU_n (by decide)).trans ((zU_n (by decide)).trans ((zU_n (by decide)).trans ((zU_x (by omega)).trans ((zU_n (by decide)).trans ((zU_n (by decide)).trans ((zU_n (by decide)).trans ((zC_n (by decide)).trans ((zC_sh (by omega)).trans ((zC_n (by decide)).trans ((zC_n (by decide)).trans ((zU_n (by decide)).trans ((zU_n (by decide)).trans ((zU_n (by decide)).trans ((zU_n (by decide)).trans ((zU_n (by decide)).trans ((zU_n (by decide)).trans ((zU_n (by decide)).trans ((zU_n (by decide)).trans ((zC_n (by decide)).trans ((zC_n (by decide)).trans ((zC_n (by decide)).trans ((zC_n (by decide)).trans ((zU_n (by decide)).trans (rfl)))))))))))))))))))))))), (zU_n (by decide)).trans ((zU_n (by decide)).trans ((zU_x (by omega)).trans ((zU_n (by decide)).trans ((zU_n (by decide)).trans ((zU_n (by decide)).trans ((zU_n (by decide)).trans ((zC_sh (by omega)).trans ((zC_n (by decide)).trans ((zC_n (by decide)).trans ((zC_n (by decide)).trans ((zU_n (by decide)).trans ((zU_n (by decide)).trans ((zU_n (by decide)).trans ((zU_n (by decide)).trans ((zU_n (by decide)).trans ((zU_n (by decide)).trans ((zU_n (by decide)).trans ((zU_n (by decide)).trans ((zC_n (by decide)).trans ((zC_n (by decide)).trans ((zC_n (by decide)).trans ((zC_n (by decide)).trans ((zU_n (by decide)).trans (rfl))))))))))))))))))))))))⟩⟩) ((zU_n (by decide)).trans ((zU_n (by decide)).trans ((zU_n (by decide)).trans ((zU_n (by decide)).trans ((zU_n (by decide)).trans ((zU_n (by decide)).trans ((zU_n (by decide)).trans ((zC_n (by decide)).trans ((zC_n (by decide)).trans ((zC_n (by decide)).trans ((zC_n (by decide)).trans ((zU_n (by decide)).trans ((zU_n (by decide)).trans ((zU_n (by decide)).trans ((zU_n (by decide)).trans ((zU_n (by decide)).trans ((zU_n (by decide)).trans ((zU_n (by decide)).trans (zU_e))))))))))))))))))) ((zU_n (by decide)).trans ((zU_n (by decide)).trans ((zU_n (by decide)).trans ((zU_n (by decide)).trans ((zU_n (by decide)).trans ((zU_n (by decide)).trans ((zU_n (by decide)).trans ((zC_n (by decide)).trans ((zC_n (by decide)).trans ((zC_n (by decide)).trans ((zC_n (by decide)).trans ((zU_n (by decide)).trans ((zU_n (by decide)).trans ((zU_n (by decide)).trans ((zU_n (by decide)).trans ((zU_n (by decide)).trans ((zU_n (by decide)).trans (zU_e)))))))))))))))))) ((zU_n (by decide)).trans ((zU_n (by decide)).trans ((zU_n (by decide)).trans ((zU_n (by decide)).trans ((zU_n (by decide)).trans ((zU_n (by decide)).trans ((zU_n (by decide)).trans ((zC_n (by decide)).trans ((zC_n (by decide)).trans ((zC_n (by decide)).trans ((zC_n (by decide)).trans ((zU_n (by decide)).trans ((zU_n (by decide)).trans ((zU_n (by decide)).trans ((zU_n (by decide)).trans ((zU_n (by decide)).trans (zU_e))))))))))))))))) ((zU_n (by decide)).trans ((zU_n (by decide)).trans ((zU_n (by decide)).trans ((zU_n (by decide)).trans ((zU_n (by decide)).trans ((zU_n (by decide)).trans ((zU_n (by decide)).trans ((zC_n (by decide)).trans ((zC_n (by decide)).trans ((zC_n (by decide)).trans ((zC_n (by decide)).trans ((zU_n (by decide)).trans ((zU_n (by decide)).trans ((zU_n (by decide)).trans ((zU_n (by decide)).trans (zU_e)))))))))))))))) ((zU_n (by decide)).trans ((zU_n (by decide)).trans ((zU_n (by decide)).trans ((zU_n (by decide)).trans (zU_e))))) ((zU_n (by decide)).trans ((zU_n (by decide)).trans ((zU_n (by decide)).trans ((zU_n (by decide)).trans ((zU_n (by decide)).trans (zU_e)))))) ((zU_n (by decide)).trans ((zU_n (by decide)).trans ((zU_n (by decide)).trans (zU_e)))) ((zU_n (by decide)).trans ((zU_n (by decide)).trans (zU_e))) hok), RelA_k hk (by repeat' constructor) (fun p => by repeat' constructor) hAc, RelS_k hk (zK_r (k := kM)) (fun x j a b => ⟨kL_38 (by decide) (by decide) x j a b, kM_38 x j a b⟩) (fun p => ⟨rfl, rfl, rfl⟩) rfl hS, RelT_k hk (by repeat' constructor) (fun p => by repeat' constructor) hTp, RelX_k hk (by repeat' constructor) (fun p => by repeat' constructor) hX, RelW_k hk ⟨rfl, rfl⟩ trivial hW⟩
theorem st_mend4_p3 {X : Nat × (Nat → Int32)} {d : Nat} {J M : zA} {R : zR} {p v : Int} (hr : Rel X J M R) (hp : -2147483648 ≤ p ∧ p < 2147483648) (hv : -2147483648 ≤ v ∧ v < 2147483648) (hV : zV (J 8 2) p (3)) (hf : zT 2 (3) ≤ v ∧ v ≤ zT 3 (3)) (he : ¬ (cN J) p (3) = v) (h40 : J 29 5 = 40) : zW X (d + 20) 104 0 (gEn 104 [(.ref 0), (zi p), (zi 3), (zi v)]) [] J M R (stP X (d + 20) 162 [(zi p), (zi 3), (zi v)]) := by
  have hr0 := hr
  obtain ⟨hR, hG, hY, hD, hP, hC, hAc, hS, hTp, hX, hW⟩ := hr0
  have hRr : zRoR R := zRoR_of hR
  have hY0 := hY
  obtain ⟨y1, y2, y3⟩ := hY0
  have yn := zNn y3
  have hC0 := hC
  obtain ⟨c1, c2, c3, c4, c5, c6⟩ := hC0
  have nr := zN_r y3 hV
  have nf := zN_fit y3 hV
  have hf2 : zFit (3) v := hf
  show zW _ _ _ _ [some (.ref 0), some (zi p), some (zi 3), some (zi v), none] _ _ _ _ _
  refine z_aload rfl rfl ?_
  refine z_getR (r := 8) rfl rfl (hR _ rm_0_1) ?_
  refine z_iload rfl rfl ?_
  refine z_iload rfl rfl ?_
  refine z_callVP (As := [_, _]) (v := 1) rfl rfl rfl (Nat.le_of_ble_eq_true rfl) (Nat.le_of_ble_eq_true rfl) (isNumber_1 hR rfl yn hp (by decide) hV) ?_
  refine z_if_eqF rfl (by decide) (by decide) ?_
  refine z_iload rfl rfl ?_
  refine z_iload rfl rfl ?_
  refine z_callSP (As := [_, _]) (v := 1) rfl rfl (Nat.le_of_ble_eq_true rfl) (Nat.le_of_ble_eq_true rfl) (isFit_1 hv (by decide) (by omega) hf) ?_
  refine z_if_neT rfl (by decide) (by decide) ?_
  refine z_aload rfl rfl ?_
  refine z_getR (r := 8) rfl rfl (hR _ rm_0_1) ?_
  refine z_iload rfl rfl ?_
  refine z_iload rfl rfl ?_
  refine z_callVP (As := [_, _]) (v := (cN J) p (3)) rfl rfl rfl (Nat.le_of_ble_eq_true rfl) (Nat.le_of_ble_eq_true rfl) (told_k hR zK_r rfl rfl y3 hp (by decide)) ?_
  refine z_istore rfl rfl ?_
  refine z_iload rfl rfl ?_
  refine z_iload rfl rfl ?_
  refine z_icmp_eqF rfl (by omega) (by omega) (by omega) ?_
  refine z_aload rfl rfl ?_
  refine z_getR (r := 29) rfl rfl (hR _ rm_0_9) ?_
  refine z_iload rfl rfl ?_
  refine z_iload rfl rfl ?_
  refine z_iload rfl rfl ?_
  refine z_iload rfl rfl ?_
  refine z_callVi (As := [_, _, _, _]) (le := [some _, some _, some _, some _, some _]) rfl rfl rfl (Nat.le_of_ble_eq_true rfl) (Nat.le_of_ble_eq_true rfl) rfl ?_
  refine z_aload rfl rfl ?_
  refine z_getI (v := 40) rfl rfl (h40) ?_
  refine z_pushI (z := 40) rfl rfl ?_
  refine z_icmp_ltF rfl (by decide) (by decide) (by decide) ?_
  refine z_aload rfl rfl ?_
  refine z_callVi (As := []) (le := [some _]) rfl rfl rfl (Nat.le_of_ble_eq_true rfl) (Nat.le_of_ble_eq_true rfl) rfl ?_
  refine z_aload rfl rfl ?_
  refine z_pushI (z := 39) rfl rfl ?_
  refine z_putI (y := 5) rfl rfl rfl ?_
  refine z_aload rfl rfl ?_
  refine z_getR (r := 30) rfl rfl (hR _ rm_29_1) ?_
  refine z_pushI (z := 1) rfl rfl ?_
  refine z_aload rfl rfl ?_
  refine z_getR (r := 30) rfl rfl (hR _ rm_29_1) ?_
  refine z_pushI (z := 0) rfl rfl ?_
  refine z_aload rfl rfl ?_
  refine z_getI (v := 39) rfl rfl (zU_e) ?_
  refine z_copyI rfl rfl rfl (by decide) (by decide) (by decide) (by decide) (by decide) (by decide) (by decide) (by decide) ?_
  refine z_aload rfl rfl ?_
  refine z_getR (r := 31) rfl rfl (hR _ rm_29_2) ?_
  refine z_pushI (z := 1) rfl rfl ?_
  refine z_aload rfl rfl ?_
  refine z_getR (r := 31) rfl rfl (hR _ rm_29_2) ?_
  refine z_pushI (z := 0) rfl rfl ?_
  refine z_aload rfl rfl ?_
  refine z_getI (v := 39) rfl rfl ((zC_n (by decide)).trans (zU_e)) ?_
  refine z_copyI rfl rfl rfl (by decide) (by decide) (by decide) (by decide) (by decide) (by decide) (by decide) (by decide) ?_
  refine z_aload rfl rfl ?_
  refine z_getR (r := 32) rfl rfl (hR _ rm_29_3) ?_
  refine z_pushI (z := 1) rfl rfl ?_
  refine z_aload rfl rfl ?_
  refine z_getR (r := 32) rfl rfl (hR _ rm_29_3) ?_
  refine z_pushI (z := 0) rfl rfl ?_
  refine z_aload rfl rfl ?_
  refine z_getI (v := 39) rfl rfl ((zC_n (by decide)).trans ((zC_n (by decide)).trans (zU_e))) ?_
  refine z_copyI rfl rfl rfl (by decide) (by decide) (by decide) (by decide) (by decide) (by decide) (by decide) (by decide) ?_
  refine z_aload rfl rfl ?_
  refine z_getR (r := 33) rfl rfl (hR _ rm_29_4) ?_
  refine z_pushI (z := 1) rfl rfl ?_
  refine z_aload rfl rfl ?_
  refine z_getR (r := 33) rfl rfl (hR _ rm_29_4) ?_
  refine z_pushI (z := 0) rfl rfl ?_
  refine z_aload rfl rfl ?_
  refine z_getI (v := 39) rfl rfl ((zC_n (by decide)).trans ((zC_n (by decide)).trans ((zC_n (by decide)).trans (zU_e)))) ?_
  refine z_copyI rfl rfl rfl (by decide) (by decide) (by decide) (by decide) (by decide) (by decide) (by decide) (by decide) ?_
  refine z_vret rfl rfl ?_
  show zW _ _ _ _ _ _ _ _ _ _
  refine z_aload rfl rfl ?_
  refine z_getR (r := 30) rfl rfl (hR _ rm_29_1) ?_
  refine z_aload rfl rfl ?_
  refine z_getI (v := 39) rfl rfl ((zC_n (by decide)).trans ((zC_n (by decide)).trans ((zC_n (by decide)).trans ((zC_n (by decide)).trans (zU_e))))) ?_
  refine z_iload rfl rfl ?_
  refine z_iast (e := p) rfl rfl (by decide) (by decide) rfl ?_
  refine z_aload rfl rfl ?_
  refine z_getR (r := 31) rfl rfl (hR _ rm_29_2) ?_
  refine z_aload rfl rfl ?_
  refine z_getI (v := 39) rfl rfl ((zU_n (by decide)).trans ((zC_n (by decide)).trans ((zC_n (by decide)).trans ((zC_n (by decide)).trans ((zC_n (by decide)).trans (zU_e)))))) ?_
  refine z_iload rfl rfl ?_
  refine z_iast (e := 3) rfl rfl (by decide) (by decide) rfl ?_
  refine z_aload rfl rfl ?_
  refine z_getR (r := 32) rfl rfl (hR _ rm_29_3) ?_
  refine z_aload rfl rfl ?_
  refine z_getI (v := 39) rfl rfl ((zU_n (by decide)).trans ((zU_n (by decide)).trans ((zC_n (by decide)).trans ((zC_n (by decide)).trans ((zC_n (by decide)).trans ((zC_n (by decide)).trans (zU_e))))))) ?_
  refine z_iload rfl rfl ?_
  refine z_iast (e := (cN J) p (3)) rfl rfl (by decide) (by decide) rfl ?_
  refine z_aload rfl rfl ?_
  refine z_getR (r := 33) rfl rfl (hR _ rm_29_4) ?_
  refine z_aload rfl rfl ?_
  refine z_getI (v := 39) rfl rfl ((zU_n (by decide)).trans ((zU_n (by decide)).trans ((zU_n (by decide)).trans ((zC_n (by decide)).trans ((zC_n (by decide)).trans ((zC_n (by decide)).trans ((zC_n (by decide)).trans (zU_e)))))))) ?_
  refine z_iload rfl rfl ?_
  refine z_iast (e := v) rfl rfl (by decide) (by decide) rfl ?_
  refine z_aload rfl rfl ?_
  refine z_dup rfl rfl ?_
  refine z_getI (v := 39) rfl rfl ((zU_n (by decide)).trans ((zU_n (by decide)).trans ((zU_n (by decide)).trans ((zU_n (by decide)).trans ((zC_n (by decide)).trans ((zC_n (by decide)).trans ((zC_n (by decide)).trans ((zC_n (by decide)).trans (zU_e))))))))) ?_
  refine z_pushI (z := 1) rfl rfl ?_
  refine z_iadd (e := 40) rfl rfl ?_
  refine z_putI (y := 5) rfl rfl rfl ?_
  refine z_aload rfl rfl ?_
  refine z_aload rfl rfl ?_
  refine z_getI (v := 40) rfl rfl (zU_e) ?_
  refine z_putI (y := 6) rfl rfl rfl ?_
  refine z_vret rfl rfl ?_
  show zW _ _ _ _ _ _ _ _ _ _
  refine z_aload rfl rfl ?_
  refine z_getR (r := 8) rfl rfl (hR _ rm_0_1) ?_
  refine z_iload rfl rfl ?_
  refine z_iload rfl rfl ?_
  refine z_iload rfl rfl ?_
  refine z_callVx (As := [_, _, _]) rfl rfl rfl (Nat.le_of_ble_eq_true rfl) (Nat.le_of_ble_eq_true rfl) (tell_p (n := J 8 2) hR rfl yn hp (by decide) (by omega)) ?_
  show zW _ _ _ _ _ _ _ _ _ _
  refine z_iload rfl rfl ?_
  refine z_iret rfl rfl ?_
  refine ⟨_, rfl, ?_⟩
  show zW _ _ _ _ [some (.ref 50), some (zi p), some (zi 3), some (zi v)] _ _ _ _ _
  refine z_aload rfl rfl ?_
  refine z_iload rfl rfl ?_
  refine z_iload rfl rfl ?_
  refine z_callVP (As := [_, _]) (v := 1) rfl rfl rfl (Nat.le_of_ble_eq_true rfl) (Nat.le_of_ble_eq_true rfl) (isOne_1 hRr y2.symm yn hp (by decide) hV) ?_
  refine z_if_eqF rfl (by decide) (by decide) ?_
  refine z_iload rfl rfl ?_
  refine z_iload rfl rfl ?_
  refine z_callSP (As := [_, _]) (v := 1) rfl rfl (Nat.le_of_ble_eq_true rfl) (Nat.le_of_ble_eq_true rfl) (mayBe_1 hv (by decide) (by omega) hf) ?_
  refine z_if_eqF rfl (by decide) (by decide) ?_
  refine z_aload rfl rfl ?_
  refine z_iload rfl rfl ?_
  refine z_iload rfl rfl ?_
  refine z_iload rfl rfl ?_
  refine z_callVi (As := [_, _, _]) (le := [some _, some _, some _, some _, none, none]) rfl rfl rfl (Nat.le_of_ble_eq_true rfl) (Nat.le_of_ble_eq_true rfl) rfl ?_
  refine z_aload rfl rfl ?_
  refine z_iload rfl rfl ?_
  refine z_iload rfl rfl ?_
  refine z_callVP (As := [_, _]) (v := (cN J) p (3)) rfl rfl rfl (Nat.le_of_ble_eq_true rfl) (Nat.le_of_ble_eq_true rfl) (valueAt_s hRr ((rN_z (zK_x (a := 9) (x := p * 5 + 3) (v := v) (zK_x (a := 29) (x := 6) (v := 40) (zK_x (a := 29) (x := 5) (v := 40) (zK_x (a := 33) (x := 39) (v := v) (zK_x (a := 32) (x := 39) (v := (cN J) p (3)) (zK_x (a := 31) (x := 39) (v := 3) (zK_x (a := 30) (x := 39) (v := p) (zK_c (a := 33) (b := 33) (sp := 1) (dp := 0) (n := 39) (zK_c (a := 32) (b := 32) (sp := 1) (dp := 0) (n := 39) (zK_c (a := 31) (b := 31) (sp := 1) (dp := 0) (n := 39) (zK_c (a := 30) (b := 30) (sp := 1) (dp := 0) (n := 39) (zK_x (a := 29) (x := 5) (v := 39) (zK_r (k := kHi) (A := J)) rfl) (fun _ => rfl)) (fun _ => rfl)) (fun _ => rfl)) (fun _ => rfl)) rfl) rfl) rfl) rfl) rfl) rfl) rfl)).trans y1.symm) y2.symm y3 hp (by decide) hV) ?_
  refine z_istore rfl rfl ?_
  refine z_iload rfl rfl ?_
  refine z_iload rfl rfl ?_
  refine z_icmp_neT rfl (by omega) (by omega) (by omega) ?_
  refine z_aload rfl rfl ?_
  refine z_pushI (z := 0) rfl rfl ?_
  refine z_putI (y := 9) rfl rfl rfl ?_
  refine z_aload rfl rfl ?_
  refine z_getI (v := 40) rfl rfl ((zU_x (by decide)).trans ((zU_n (by decide)).trans ((zU_n (by decide)).trans ((zU_n (by decide)).trans ((zU_n (by decide)).trans ((zU_n (by decide)).trans ((zU_n (by decide)).trans ((zU_n (by decide)).trans ((zC_n (by decide)).trans ((zC_n (by decide)).trans ((zC_n (by decide)).trans ((zC_n (by decide)).trans ((zU_n (by decide)).trans (c1.symm.trans h40)))))))))))))) ?_
  refine z_pushI (z := 40) rfl rfl ?_
  refine z_icmp_neF rfl (by decide) (by decide) (by decide) ?_
  refine z_pushI (z := 1) rfl rfl ?_
  refine z_istore rfl rfl ?_
  show zW _ _ _ _ [some (.ref 50), some (zi 3), some (zi p), some (zi v), some (zi ((cN J) p (3))), some (zi 1)] [] _ _ _ _
  refine zC4_in ?_
  refine shift40_z hRr 39 0 (by decide) (by decide) ?_
  refine z_aload rfl rfl ?_
  refine z_dup rfl rfl ?_
  refine z_getI (v := 40) rfl rfl ((zC_n (by decide)).trans ((zC_n (by decide)).trans ((zC_n (by decide)).trans ((zC_n (by decide)).trans ((zU_x (by decide)).trans ((zU_n (by decide)).trans ((zU_n (by decide)).trans ((zU_n (by decide)).trans ((zU_n (by decide)).trans ((zU_n (by decide)).trans ((zU_n (by decide)).trans ((zU_n (by decide)).trans ((zC_n (by decide)).trans ((zC_n (by decide)).trans ((zC_n (by decide)).trans ((zC_n (by decide)).trans ((zU_n (by decide)).trans (c1.symm.trans h40)))))))))))))))))) ?_
  refine z_pushI (z := 1) rfl rfl ?_
  refine z_isub (e := 39) rfl rfl ?_
  refine z_putI (y := 8) rfl rfl rfl ?_
  refine z_aload rfl rfl ?_
  refine z_getR (r := 57) rfl rfl (hRr _ rm_50_10 (by decide)) ?_
  refine z_aload rfl rfl ?_
  refine z_getI (v := 39) rfl rfl (zU_e) ?_
  refine z_iload rfl rfl ?_
  refine z_iast (e := 3) rfl rfl (by decide) (by decide) rfl ?_
  refine z_aload rfl rfl ?_
  refine z_getR (r := 58) rfl rfl (hRr _ rm_50_11 (by decide)) ?_
  refine z_aload rfl rfl ?_
  refine z_getI (v := 39) rfl rfl ((zU_n (by decide)).trans (zU_e)) ?_
  refine z_iload rfl rfl ?_
  refine z_iast (e := p) rfl rfl (by decide) (by decide) rfl ?_
  refine z_aload rfl rfl ?_
  refine z_getR (r := 59) rfl rfl (hRr _ rm_50_12 (by decide)) ?_
  refine z_aload rfl rfl ?_
  refine z_getI (v := 39) rfl rfl ((zU_n (by decide)).trans ((zU_n (by decide)).trans (zU_e))) ?_
  refine z_iload rfl rfl ?_
  refine z_iast (e := (cN J) p (3)) rfl rfl (by decide) (by decide) rfl ?_
  refine z_aload rfl rfl ?_
  refine z_getR (r := 60) rfl rfl (hRr _ rm_50_13 (by decide)) ?_
  refine z_aload rfl rfl ?_
  refine z_getI (v := 39) rfl rfl ((zU_n (by decide)).trans ((zU_n (by decide)).trans ((zU_n (by decide)).trans (zU_e)))) ?_
  refine z_iload rfl rfl ?_
  refine z_iast (e := v) rfl rfl (by decide) (by decide) rfl ?_
  refine z_aload rfl rfl ?_
  refine z_dup rfl rfl ?_
  refine z_getI (v := 39) rfl rfl ((zU_n (by decide)).trans ((zU_n (by decide)).trans ((zU_n (by decide)).trans ((zU_n (by decide)).trans (zU_e))))) ?_
  refine z_pushI (z := 1) rfl rfl ?_
  refine z_iadd (e := 40) rfl rfl ?_
  refine z_putI (y := 8) rfl rfl rfl ?_
  refine z_aload rfl rfl ?_
  refine z_iload rfl rfl ?_
  refine z_iload rfl rfl ?_
  refine z_iload rfl rfl ?_
  refine z_callVx (As := [_, _, _]) rfl rfl rfl (Nat.le_of_ble_eq_true rfl) (Nat.le_of_ble_eq_true rfl) (lays_p (n := J 8 2) hRr y2.symm yn hp (by decide) (by omega)) ?_
  show zW _ _ _ _ _ _ _ _ _ _
  refine z_iload rfl rfl ?_
  refine z_iret rfl rfl ?_
  show zW _ _ _ _ _ _ _ _ _ _
  refine z_goto rfl ?_
  refine z_iret rfl rfl ?_
  refine ⟨?_, ?_⟩
  · first | rfl | exact congrArg (fun v => some (zi v)) (by omega) | (exfalso; omega)
  · have hs := (zK_u (a := 54) (x := p) (v := v) (zK_x (a := 50) (x := 8) (v := 40) (zK_x (a := 60) (x := 39) (v := v) (zK_x (a := 59) (x := 39) (v := (cN J) p (3)) (zK_x (a := 58) (x := 39) (v := p) (zK_x (a := 57) (x := 39) (v := 3) (zK_x (a := 50) (x := 8) (v := 39) (zK_c (a := 60) (b := 60) (sp := 1) (dp := 0) (n := 39) (zK_c (a := 59) (b := 59) (sp := 1) (dp := 0) (n := 39) (zK_c (a := 58) (b := 58) (sp := 1) (dp := 0) (n := 39) (zK_c (a := 57) (b := 57) (sp := 1) (dp := 0) (n := 39) (zK_x (a := 50) (x := 9) (v := 0) (zK_u (a := 9) (x := p * 5 + 3) (v := v) (zK_x (a := 29) (x := 6) (v := 40) (zK_x (a := 29) (x := 5) (v := 40) (zK_x (a := 33) (x := 39) (v := v) (zK_x (a := 32) (x := 39) (v := (cN J) p (3)) (zK_x (a := 31) (x := 39) (v := 3) (zK_x (a := 30) (x := 39) (v := p) (zK_c (a := 33) (b := 33) (sp := 1) (dp := 0) (n := 39) (zK_c (a := 32) (b := 32) (sp := 1) (dp := 0) (n := 39) (zK_c (a := 31) (b := 31) (sp := 1) (dp := 0) (n := 39) (zK_c (a := 30) (b := 30) (sp := 1) (dp := 0) (n := 39) (zK_x (a := 29) (x := 5) (v := 39) (zK_r (k := (kL [30, 31, 32, 33, 57, 58, 59, 60] [(29, 5), (30, 39), (31, 39), (32, 39), (33, 39), (29, 6), (50, 9), (50, 8), (57, 39), (58, 39), (59, 39), (60, 39)])) (A := J)) rfl) (fun _ => rfl)) (fun _ => rfl)) (fun _ => rfl)) (fun _ => rfl)) rfl) rfl) rfl) rfl) rfl) rfl)) rfl) (fun _ => rfl)) (fun _ => rfl)) (fun _ => rfl)) (fun _ => rfl)) rfl) rfl) rfl) rfl) rfl) rfl))
    have hY2 := RelY_k hs (by repeat' constructor) (fun p => by repeat' constructor) (RelY_p (p := p) (w := 3) hY (by omega) (by omega) hf2 (by omega) rfl rfl)
    have hok : zOkc (J 8 2) p (3) ((cN J) p (3)) v := ⟨hV, nf, hf2⟩
    have hk := (zK_x (a := 54) (x := p) (v := v) (zK_x (a := 50) (x := 8) (v := 40) (zK_x (a := 60) (x := 39) (v := v) (zK_x (a := 59) (x := 39) (v := (cN J) p (3)) (zK_x (a := 58) (x := 39) (v := p) (zK_x (a := 57) (x := 39) (v := 3) (zK_x (a := 50) (x := 8) (v := 39) (zK_c (a := 60) (b := 60) (sp := 1) (dp := 0) (n := 39) (zK_c (a := 59) (b := 59) (sp := 1) (dp := 0) (n := 39) (zK_c (a := 58) (b := 58) (sp := 1) (dp := 0) (n := 39) (zK_c (a := 57) (b := 57) (sp := 1) (dp := 0) (n := 39) (zK_x (a := 50) (x := 9) (v := 0) (zK_x (a := 9) (x := p * 5 + 3) (v := v) (zK_x (a := 29) (x := 6) (v := 40) (zK_x (a := 29) (x := 5) (v := 40) (zK_x (a := 33) (x := 39) (v := v) (zK_x (a := 32) (x := 39) (v := (cN J) p (3)) (zK_x (a := 31) (x := 39) (v := 3) (zK_x (a := 30) (x := 39) (v := p) (zK_c (a := 33) (b := 33) (sp := 1) (dp := 0) (n := 39) (zK_c (a := 32) (b := 32) (sp := 1) (dp := 0) (n := 39) (zK_c (a := 31) (b := 31) (sp := 1) (dp := 0) (n := 39) (zK_c (a := 30) (b := 30) (sp := 1) (dp := 0) (n := 39) (zK_x (a := 29) (x := 5) (v := 39) (zK_r (k := (kL [30, 31, 32, 33, 9, 57, 58, 59, 60, 54] [(29, 5), (30, 39), (31, 39), (32, 39), (33, 39), (29, 6), (50, 9), (50, 8), (57, 39), (58, 39), (59, 39), (60, 39)])) (A := J)) rfl) (fun _ => rfl)) (fun _ => rfl)) (fun _ => rfl)) (fun _ => rfl)) rfl) rfl) rfl) rfl) rfl) rfl) rfl) rfl) (fun _ => rfl)) (fun _ => rfl)) (fun _ => rfl)) (fun _ => rfl)) rfl) rfl) rfl) rfl) rfl) rfl) rfl)
    exact ⟨hR, hG, hY2, RelD_k hk (by repeat' constructor) (fun p => by repeat' constructor) hD, RelP_k hk (by repeat' constructor) (fun p => by repeat' constructor) hP, (RelC_mk (K := J) (d := 39) (o := 1) rfl rfl rfl rfl (by decide) (by decide) rfl rfl hC (by omega) (fun i i1 i2 => ⟨⟨(zU_n (by decide)).trans ((zU_n (by decide)).trans ((zU_n (by decide)).trans ((zU_n (by decide)).trans ((zU_n (by decide)).trans ((zU_n (by decide)).trans ((zU_n (by decide)).trans ((zC_n (by decide)).trans ((zC_n (by decide)).trans ((zC_n (by decide)).trans ((zC_n (by decide)).trans ((zU_n (by decide)).trans ((zU_n (by decide)).trans ((zU_n (by decide)).trans ((zU_n (by decide)).trans ((zU_n (by decide)).trans ((zU_n (by decide)).trans ((zU_n (by decide)).trans ((zU_x (by omega)).trans ((zC_n (by decide)).trans ((zC_n (by decide)).trans ((zC_n (by decide)).trans ((zC_sh (by omega)).trans ((zU_n (by decide)).trans (rfl)))))))))))))))))))))))), (zU_n (by decide)).trans ((zU_n (by decide)).trans ((zU_n (by decide)).trans ((zU_n (by decide)).trans ((zU_n (by decide)).trans ((zU_n (by decide)).trans ((zU_n (by decide)).trans ((zC_n (by decide)).trans ((zC_n (by decide)).trans ((zC_n (by decide)).trans ((zC_n (by decide)).trans ((zU_n (by decide)).trans ((zU_n (by decide)).trans ((zU_n (by decide)).trans ((zU_n (by decide)).trans ((zU_n (by decide)).trans ((zU_n (by decide)).trans ((zU_x (by omega)).trans ((zU_n (by decide)).trans ((zC_n (by decide)).trans ((zC_n (by decide)).trans ((zC_sh (by omega)).trans ((zC_n (by decide)).trans ((zU_n (by decide)).trans (rfl)))))))))))))))))))))))), (zU_n (by decide)).trans ((zU_n (by decide)).trans ((zU_n (by decide)).trans ((zU_n (by decide)).trans ((zU_n (by decide)).trans ((zU_n (by decide)).trans ((zU_n (by decide)).trans ((zC_n (by decide)).trans ((zC_n (by decide)).trans ((zC_n (by decide)).trans ((zC_n (by decide)).trans ((zU_n (by decide)).trans ((zU_n (by decide)).trans ((zU_n (by decide)).trans ((zU_n (by decide)).trans ((zU_n (by decide)).trans ((zU_x (by omega)).trans ((zU_n (by decide)).trans ((zU_n (by decide)).trans ((zC_n (by decide)).trans ((zC_sh (by omega)).trans ((zC_n (by decide)).trans ((zC_n (by decide)).trans ((zU_n (by decide)).trans (rfl)))))))))))))))))))))))), (zU_n (by decide)).trans ((zU_n (by decide)).trans ((zU_n (by decide)).trans ((zU_n (by decide)).trans ((zU_n (by decide)).trans ((zU_n (by decide)).trans ((zU_n (by decide)).trans ((zC_n (by decide)).trans ((zC_n (by decide)).trans ((zC_n (by decide)).trans ((zC_n (by decide)).trans ((zU_n (by decide)).trans ((zU_n (by decide)).trans ((zU_n (by decide)).trans ((zU_n (by decide)).trans ((zU_x (by omega)).trans ((zU_n (by decide)).trans ((zU_n (by decide)).trans ((zU_n (by decide)).trans ((zC_sh (by omega)).trans ((zC_n (by decide)).trans ((zC_n (by decide)).trans ((zC_n (by decide)).trans ((zU_n (by decide)).trans (rfl))))))))))))))))))))))))⟩, ⟨(zU_n (by decide)).trans ((zU_n (by decide)).trans ((zU_n (by decide)).trans ((zU_n (by decide)).trans ((zU_x (by omega)).trans ((zU_n (by decide)).trans ((zU_n (by decide)).trans ((zC_n (by decide)).trans ((zC_n (by decide)).trans ((zC_sh (by omega)).trans ((zC_n (by decide)).trans ((zU_n (by decide)).trans ((zU_n (by decide)).trans ((zU_n (by decide)).trans ((zU_n (by decide)).trans ((zU_n (by decide)).trans ((zU_n (by decide)).trans ((zU_n (by decide)).trans ((zU_n (by decide)).trans ((zC_n (by decide)).trans ((zC_n (by decide)).trans ((zC_n (by decide)).trans ((zC_n (by decide)).trans ((zU_n (by decide)).trans (rfl)))))))))))))))))))))))), (zU_n (by decide)).trans ((zU_n (by decide)).trans ((zU_n (by decide)).trans ((zU_n (by decide)).trans ((zU_n (by decide)).trans ((zU_x (by omega)).trans ((zU_n (by decide)).trans ((zC_n (by decide)).trans ((zC_n (by decide)).trans ((zC_n (by decide)).trans ((zC_sh (by omega)).trans ((zU_n (by decide)).trans ((zU_n (by decide)).trans ((zU_n (by decide)).trans ((zU_n (by decide)).trans ((zU_n (by decide)).trans ((zU_n (by decide)).trans ((zU_n (by decide)).trans ((zU_n (by decide)).trans ((zC_n (by decide)).trans ((zC_n (by decide)).trans ((zC_n (by decide)).trans ((zC_n (by decide)).trans ((zU_n (by decide)).trans (rfl)))))))))))))))))))))))), (zU_n (by decide)).trans ((zU_n (by decide)).trans ((zU_n (by decide)).trans ((zU_x (by omega)).trans ((zU_n (by decide)).trans ((zU_n (by decide)).trans ((zU_n (by decide)).trans ((zC_n (by decide)).trans ((zC_sh (by omega)).trans ((zC_n (by decide)).trans ((zC_n (by decide)).trans ((zU_n (by decide)).trans ((zU_n (by decide)).trans ((zU_n (by decide)).trans ((zU_n (by decide)).trans ((zU_n (by decide)).trans ((zU_n (by decide)).trans ((zU_n (by decide)).trans ((zU_n (by decide)).trans ((zC_n (by decide)).trans ((zC_n (by decide)).trans ((zC_n (by decide)).trans ((zC_n (by decide)).trans ((zU_n (by decide)).trans (rfl)))))))))))))))))))))))), (zU_n (by decide)).trans ((zU_n (by decide)).trans ((zU_x (by omega)).trans ((zU_n (by decide)).trans ((zU_n (by decide)).trans ((zU_n (by decide)).trans ((zU_n (by decide)).trans ((zC_sh (by omega)).trans ((zC_n (by decide)).trans ((zC_n (by decide)).trans ((zC_n (by decide)).trans ((zU_n (by decide)).trans ((zU_n (by decide)).trans ((zU_n (by decide)).trans ((zU_n (by decide)).trans ((zU_n (by decide)).trans ((zU_n (by decide)).trans ((zU_n (by decide)).trans ((zU_n (by decide)).trans ((zC_n (by decide)).trans ((zC_n (by decide)).trans ((zC_n (by decide)).trans ((zC_n (by decide)).trans ((zU_n (by decide)).trans (rfl))))))))))))))))))))))))⟩⟩) ((zU_n (by decide)).trans ((zU_n (by decide)).trans ((zU_n (by decide)).trans ((zU_n (by decide)).trans ((zU_n (by decide)).trans ((zU_n (by decide)).trans ((zU_n (by decide)).trans ((zC_n (by decide)).trans ((zC_n (by decide)).trans ((zC_n (by decide)).trans ((zC_n (by decide)).trans ((zU_n (by decide)).trans ((zU_n (by decide)).trans ((zU_n (by decide)).trans ((zU_n (by decide)).trans ((zU_n (by decide)).trans ((zU_n (by decide)).trans ((zU_n (by decide)).trans (zU_e))))))))))))))))))) ((zU_n (by decide)).trans ((zU_n (by decide)).trans ((zU_n (by decide)).trans ((zU_n (by decide)).trans ((zU_n (by decide)).trans ((zU_n (by decide)).trans ((zU_n (by decide)).trans ((zC_n (by decide)).trans ((zC_n (by decide)).trans ((zC_n (by decide)).trans ((zC_n (by decide)).trans ((zU_n (by decide)).trans ((zU_n (by decide)).trans ((zU_n (by decide)).trans ((zU_n (by decide)).trans ((zU_n (by decide)).trans ((zU_n (by decide)).trans (zU_e)))))))))))))))))) ((zU_n (by decide)).trans ((zU_n (by decide)).trans ((zU_n (by decide)).trans ((zU_n (by decide)).trans ((zU_n (by decide)).trans ((zU_n (by decide)).trans ((zU_n (by decide)).trans ((zC_n (by decide)).trans ((zC_n (by decide)).trans ((zC_n (by decide)).trans ((zC_n (by decide)).trans ((zU_n (by decide)).trans ((zU_n (by decide)).trans ((zU_n (by decide)).trans ((zU_n (by decide)).trans ((zU_n (by decide)).trans (zU_e))))))))))))))))) ((zU_n (by decide)).trans ((zU_n (by decide)).trans ((zU_n (by decide)).trans ((zU_n (by decide)).trans ((zU_n (by decide)).trans ((zU_n (by decide)).trans ((zU_n (by decide)).trans ((zC_n (by decide)).trans ((zC_n (by decide)).trans ((zC_n (by decide)).trans ((zC_n (by decide)).trans ((zU_n (by decide)).trans ((zU_n (by decide)).trans ((zU_n (by decide)).trans ((zU_n (by decide)).trans (zU_e)))))))))))))))) ((zU_n (by decide)).trans ((zU_n (by decide)).trans ((zU_n (by decide)).trans ((zU_n (by decide)).trans (zU_e))))) ((zU_n (by decide)).trans ((zU_n (by decide)).trans ((zU_n (by decide)).trans ((zU_n (by decide)).trans ((zU_n (by decide)).trans (zU_e)))))) ((zU_n (by decide)).trans ((zU_n (by decide)).trans ((zU_n (by decide)).trans (zU_e)))) ((zU_n (by decide)).trans ((zU_n (by decide)).trans (zU_e))) hok), RelA_k hk (by repeat' constructor) (fun p => by repeat' constructor) hAc, RelS_k hk (zK_r (k := kM)) (fun x j a b => ⟨kL_38 (by decide) (by decide) x j a b, kM_38 x j a b⟩) (fun p => ⟨rfl, rfl, rfl⟩) rfl hS, RelT_k hk (by repeat' constructor) (fun p => by repeat' constructor) hTp, RelX_k hk (by repeat' constructor) (fun p => by repeat' constructor) hX, RelW_k hk ⟨rfl, rfl⟩ trivial hW⟩
theorem st_mend4_p4 {X : Nat × (Nat → Int32)} {d : Nat} {J M : zA} {R : zR} {p v : Int} (hr : Rel X J M R) (hp : -2147483648 ≤ p ∧ p < 2147483648) (hv : -2147483648 ≤ v ∧ v < 2147483648) (hV : zV (J 8 2) p (4)) (hf : zT 2 (4) ≤ v ∧ v ≤ zT 3 (4)) (he : ¬ (cN J) p (4) = v) (h40 : J 29 5 = 40) : zW X (d + 20) 104 0 (gEn 104 [(.ref 0), (zi p), (zi 4), (zi v)]) [] J M R (stP X (d + 20) 162 [(zi p), (zi 4), (zi v)]) := by
  have hr0 := hr
  obtain ⟨hR, hG, hY, hD, hP, hC, hAc, hS, hTp, hX, hW⟩ := hr0
  have hRr : zRoR R := zRoR_of hR
  have hY0 := hY
  obtain ⟨y1, y2, y3⟩ := hY0
  have yn := zNn y3
  have hC0 := hC
  obtain ⟨c1, c2, c3, c4, c5, c6⟩ := hC0
  have nr := zN_r y3 hV
  have nf := zN_fit y3 hV
  have hf2 : zFit (4) v := hf
  show zW _ _ _ _ [some (.ref 0), some (zi p), some (zi 4), some (zi v), none] _ _ _ _ _
  refine z_aload rfl rfl ?_
  refine z_getR (r := 8) rfl rfl (hR _ rm_0_1) ?_
  refine z_iload rfl rfl ?_
  refine z_iload rfl rfl ?_
  refine z_callVP (As := [_, _]) (v := 1) rfl rfl rfl (Nat.le_of_ble_eq_true rfl) (Nat.le_of_ble_eq_true rfl) (isNumber_1 hR rfl yn hp (by decide) hV) ?_
  refine z_if_eqF rfl (by decide) (by decide) ?_
  refine z_iload rfl rfl ?_
  refine z_iload rfl rfl ?_
  refine z_callSP (As := [_, _]) (v := 1) rfl rfl (Nat.le_of_ble_eq_true rfl) (Nat.le_of_ble_eq_true rfl) (isFit_1 hv (by decide) (by omega) hf) ?_
  refine z_if_neT rfl (by decide) (by decide) ?_
  refine z_aload rfl rfl ?_
  refine z_getR (r := 8) rfl rfl (hR _ rm_0_1) ?_
  refine z_iload rfl rfl ?_
  refine z_iload rfl rfl ?_
  refine z_callVP (As := [_, _]) (v := (cN J) p (4)) rfl rfl rfl (Nat.le_of_ble_eq_true rfl) (Nat.le_of_ble_eq_true rfl) (told_k hR zK_r rfl rfl y3 hp (by decide)) ?_
  refine z_istore rfl rfl ?_
  refine z_iload rfl rfl ?_
  refine z_iload rfl rfl ?_
  refine z_icmp_eqF rfl (by omega) (by omega) (by omega) ?_
  refine z_aload rfl rfl ?_
  refine z_getR (r := 29) rfl rfl (hR _ rm_0_9) ?_
  refine z_iload rfl rfl ?_
  refine z_iload rfl rfl ?_
  refine z_iload rfl rfl ?_
  refine z_iload rfl rfl ?_
  refine z_callVi (As := [_, _, _, _]) (le := [some _, some _, some _, some _, some _]) rfl rfl rfl (Nat.le_of_ble_eq_true rfl) (Nat.le_of_ble_eq_true rfl) rfl ?_
  refine z_aload rfl rfl ?_
  refine z_getI (v := 40) rfl rfl (h40) ?_
  refine z_pushI (z := 40) rfl rfl ?_
  refine z_icmp_ltF rfl (by decide) (by decide) (by decide) ?_
  refine z_aload rfl rfl ?_
  refine z_callVi (As := []) (le := [some _]) rfl rfl rfl (Nat.le_of_ble_eq_true rfl) (Nat.le_of_ble_eq_true rfl) rfl ?_
  refine z_aload rfl rfl ?_
  refine z_pushI (z := 39) rfl rfl ?_
  refine z_putI (y := 5) rfl rfl rfl ?_
  refine z_aload rfl rfl ?_
  refine z_getR (r := 30) rfl rfl (hR _ rm_29_1) ?_
  refine z_pushI (z := 1) rfl rfl ?_
  refine z_aload rfl rfl ?_
  refine z_getR (r := 30) rfl rfl (hR _ rm_29_1) ?_
  refine z_pushI (z := 0) rfl rfl ?_
  refine z_aload rfl rfl ?_
  refine z_getI (v := 39) rfl rfl (zU_e) ?_
  refine z_copyI rfl rfl rfl (by decide) (by decide) (by decide) (by decide) (by decide) (by decide) (by decide) (by decide) ?_
  refine z_aload rfl rfl ?_
  refine z_getR (r := 31) rfl rfl (hR _ rm_29_2) ?_
  refine z_pushI (z := 1) rfl rfl ?_
  refine z_aload rfl rfl ?_
  refine z_getR (r := 31) rfl rfl (hR _ rm_29_2) ?_
  refine z_pushI (z := 0) rfl rfl ?_
  refine z_aload rfl rfl ?_
  refine z_getI (v := 39) rfl rfl ((zC_n (by decide)).trans (zU_e)) ?_
  refine z_copyI rfl rfl rfl (by decide) (by decide) (by decide) (by decide) (by decide) (by decide) (by decide) (by decide) ?_
  refine z_aload rfl rfl ?_
  refine z_getR (r := 32) rfl rfl (hR _ rm_29_3) ?_
  refine z_pushI (z := 1) rfl rfl ?_
  refine z_aload rfl rfl ?_
  refine z_getR (r := 32) rfl rfl (hR _ rm_29_3) ?_
  refine z_pushI (z := 0) rfl rfl ?_
  refine z_aload rfl rfl ?_
  refine z_getI (v := 39) rfl rfl ((zC_n (by decide)).trans ((zC_n (by decide)).trans (zU_e))) ?_
  refine z_copyI rfl rfl rfl (by decide) (by decide) (by decide) (by decide) (by decide) (by decide) (by decide) (by decide) ?_
  refine z_aload rfl rfl ?_
  refine z_getR (r := 33) rfl rfl (hR _ rm_29_4) ?_
  refine z_pushI (z := 1) rfl rfl ?_
  refine z_aload rfl rfl ?_
  refine z_getR (r := 33) rfl rfl (hR _ rm_29_4) ?_
  refine z_pushI (z := 0) rfl rfl ?_
  refine z_aload rfl rfl ?_
  refine z_getI (v := 39) rfl rfl ((zC_n (by decide)).trans ((zC_n (by decide)).trans ((zC_n (by decide)).trans (zU_e)))) ?_
  refine z_copyI rfl rfl rfl (by decide) (by decide) (by decide) (by decide) (by decide) (by decide) (by decide) (by decide) ?_
  refine z_vret rfl rfl ?_
  show zW _ _ _ _ _ _ _ _ _ _
  refine z_aload rfl rfl ?_
  refine z_getR (r := 30) rfl rfl (hR _ rm_29_1) ?_
  refine z_aload rfl rfl ?_
  refine z_getI (v := 39) rfl rfl ((zC_n (by decide)).trans ((zC_n (by decide)).trans ((zC_n (by decide)).trans ((zC_n (by decide)).trans (zU_e))))) ?_
  refine z_iload rfl rfl ?_
  refine z_iast (e := p) rfl rfl (by decide) (by decide) rfl ?_
  refine z_aload rfl rfl ?_
  refine z_getR (r := 31) rfl rfl (hR _ rm_29_2) ?_
  refine z_aload rfl rfl ?_
  refine z_getI (v := 39) rfl rfl ((zU_n (by decide)).trans ((zC_n (by decide)).trans ((zC_n (by decide)).trans ((zC_n (by decide)).trans ((zC_n (by decide)).trans (zU_e)))))) ?_
  refine z_iload rfl rfl ?_
  refine z_iast (e := 4) rfl rfl (by decide) (by decide) rfl ?_
  refine z_aload rfl rfl ?_
  refine z_getR (r := 32) rfl rfl (hR _ rm_29_3) ?_
  refine z_aload rfl rfl ?_
  refine z_getI (v := 39) rfl rfl ((zU_n (by decide)).trans ((zU_n (by decide)).trans ((zC_n (by decide)).trans ((zC_n (by decide)).trans ((zC_n (by decide)).trans ((zC_n (by decide)).trans (zU_e))))))) ?_
  refine z_iload rfl rfl ?_
  refine z_iast (e := (cN J) p (4)) rfl rfl (by decide) (by decide) rfl ?_
  refine z_aload rfl rfl ?_
  refine z_getR (r := 33) rfl rfl (hR _ rm_29_4) ?_
  refine z_aload rfl rfl ?_
  refine z_getI (v := 39) rfl rfl ((zU_n (by decide)).trans ((zU_n (by decide)).trans ((zU_n (by decide)).trans ((zC_n (by decide)).trans ((zC_n (by decide)).trans ((zC_n (by decide)).trans ((zC_n (by decide)).trans (zU_e)))))))) ?_
  refine z_iload rfl rfl ?_
  refine z_iast (e := v) rfl rfl (by decide) (by decide) rfl ?_
  refine z_aload rfl rfl ?_
  refine z_dup rfl rfl ?_
  refine z_getI (v := 39) rfl rfl ((zU_n (by decide)).trans ((zU_n (by decide)).trans ((zU_n (by decide)).trans ((zU_n (by decide)).trans ((zC_n (by decide)).trans ((zC_n (by decide)).trans ((zC_n (by decide)).trans ((zC_n (by decide)).trans (zU_e))))))))) ?_
  refine z_pushI (z := 1) rfl rfl ?_
  refine z_iadd (e := 40) rfl rfl ?_
  refine z_putI (y := 5) rfl rfl rfl ?_
  refine z_aload rfl rfl ?_
  refine z_aload rfl rfl ?_
  refine z_getI (v := 40) rfl rfl (zU_e) ?_
  refine z_putI (y := 6) rfl rfl rfl ?_
  refine z_vret rfl rfl ?_
  show zW _ _ _ _ _ _ _ _ _ _
  refine z_aload rfl rfl ?_
  refine z_getR (r := 8) rfl rfl (hR _ rm_0_1) ?_
  refine z_iload rfl rfl ?_
  refine z_iload rfl rfl ?_
  refine z_iload rfl rfl ?_
  refine z_callVx (As := [_, _, _]) rfl rfl rfl (Nat.le_of_ble_eq_true rfl) (Nat.le_of_ble_eq_true rfl) (tell_p (n := J 8 2) hR rfl yn hp (by decide) (by omega)) ?_
  show zW _ _ _ _ _ _ _ _ _ _
  refine z_iload rfl rfl ?_
  refine z_iret rfl rfl ?_
  refine ⟨_, rfl, ?_⟩
  show zW _ _ _ _ [some (.ref 50), some (zi p), some (zi 4), some (zi v)] _ _ _ _ _
  refine z_aload rfl rfl ?_
  refine z_iload rfl rfl ?_
  refine z_iload rfl rfl ?_
  refine z_callVP (As := [_, _]) (v := 1) rfl rfl rfl (Nat.le_of_ble_eq_true rfl) (Nat.le_of_ble_eq_true rfl) (isOne_1 hRr y2.symm yn hp (by decide) hV) ?_
  refine z_if_eqF rfl (by decide) (by decide) ?_
  refine z_iload rfl rfl ?_
  refine z_iload rfl rfl ?_
  refine z_callSP (As := [_, _]) (v := 1) rfl rfl (Nat.le_of_ble_eq_true rfl) (Nat.le_of_ble_eq_true rfl) (mayBe_1 hv (by decide) (by omega) hf) ?_
  refine z_if_eqF rfl (by decide) (by decide) ?_
  refine z_aload rfl rfl ?_
  refine z_iload rfl rfl ?_
  refine z_iload rfl rfl ?_
  refine z_iload rfl rfl ?_
  refine z_callVi (As := [_, _, _]) (le := [some _, some _, some _, some _, none, none]) rfl rfl rfl (Nat.le_of_ble_eq_true rfl) (Nat.le_of_ble_eq_true rfl) rfl ?_
  refine z_aload rfl rfl ?_
  refine z_iload rfl rfl ?_
  refine z_iload rfl rfl ?_
  refine z_callVP (As := [_, _]) (v := (cN J) p (4)) rfl rfl rfl (Nat.le_of_ble_eq_true rfl) (Nat.le_of_ble_eq_true rfl) (valueAt_s hRr ((rN_z (zK_x (a := 9) (x := p * 5 + 4) (v := v) (zK_x (a := 29) (x := 6) (v := 40) (zK_x (a := 29) (x := 5) (v := 40) (zK_x (a := 33) (x := 39) (v := v) (zK_x (a := 32) (x := 39) (v := (cN J) p (4)) (zK_x (a := 31) (x := 39) (v := 4) (zK_x (a := 30) (x := 39) (v := p) (zK_c (a := 33) (b := 33) (sp := 1) (dp := 0) (n := 39) (zK_c (a := 32) (b := 32) (sp := 1) (dp := 0) (n := 39) (zK_c (a := 31) (b := 31) (sp := 1) (dp := 0) (n := 39) (zK_c (a := 30) (b := 30) (sp := 1) (dp := 0) (n := 39) (zK_x (a := 29) (x := 5) (v := 39) (zK_r (k := kHi) (A := J)) rfl) (fun _ => rfl)) (fun _ => rfl)) (fun _ => rfl)) (fun _ => rfl)) rfl) rfl) rfl) rfl) rfl) rfl) rfl)).trans y1.symm) y2.symm y3 hp (by decide) hV) ?_
  refine z_istore rfl rfl ?_
  refine z_iload rfl rfl ?_
  refine z_iload rfl rfl ?_
  refine z_icmp_neT rfl (by omega) (by omega) (by omega) ?_
  refine z_aload rfl rfl ?_
  refine z_pushI (z := 0) rfl rfl ?_
  refine z_putI (y := 9) rfl rfl rfl ?_
  refine z_aload rfl rfl ?_
  refine z_getI (v := 40) rfl rfl ((zU_x (by decide)).trans ((zU_n (by decide)).trans ((zU_n (by decide)).trans ((zU_n (by decide)).trans ((zU_n (by decide)).trans ((zU_n (by decide)).trans ((zU_n (by decide)).trans ((zU_n (by decide)).trans ((zC_n (by decide)).trans ((zC_n (by decide)).trans ((zC_n (by decide)).trans ((zC_n (by decide)).trans ((zU_n (by decide)).trans (c1.symm.trans h40)))))))))))))) ?_
  refine z_pushI (z := 40) rfl rfl ?_
  refine z_icmp_neF rfl (by decide) (by decide) (by decide) ?_
  refine z_pushI (z := 1) rfl rfl ?_
  refine z_istore rfl rfl ?_
  show zW _ _ _ _ [some (.ref 50), some (zi 4), some (zi p), some (zi v), some (zi ((cN J) p (4))), some (zi 1)] [] _ _ _ _
  refine zC4_in ?_
  refine shift40_z hRr 39 0 (by decide) (by decide) ?_
  refine z_aload rfl rfl ?_
  refine z_dup rfl rfl ?_
  refine z_getI (v := 40) rfl rfl ((zC_n (by decide)).trans ((zC_n (by decide)).trans ((zC_n (by decide)).trans ((zC_n (by decide)).trans ((zU_x (by decide)).trans ((zU_n (by decide)).trans ((zU_n (by decide)).trans ((zU_n (by decide)).trans ((zU_n (by decide)).trans ((zU_n (by decide)).trans ((zU_n (by decide)).trans ((zU_n (by decide)).trans ((zC_n (by decide)).trans ((zC_n (by decide)).trans ((zC_n (by decide)).trans ((zC_n (by decide)).trans ((zU_n (by decide)).trans (c1.symm.trans h40)))))))))))))))))) ?_
  refine z_pushI (z := 1) rfl rfl ?_
  refine z_isub (e := 39) rfl rfl ?_
  refine z_putI (y := 8) rfl rfl rfl ?_
  refine z_aload rfl rfl ?_
  refine z_getR (r := 57) rfl rfl (hRr _ rm_50_10 (by decide)) ?_
  refine z_aload rfl rfl ?_
  refine z_getI (v := 39) rfl rfl (zU_e) ?_
  refine z_iload rfl rfl ?_
  refine z_iast (e := 4) rfl rfl (by decide) (by decide) rfl ?_
  refine z_aload rfl rfl ?_
  refine z_getR (r := 58) rfl rfl (hRr _ rm_50_11 (by decide)) ?_
  refine z_aload rfl rfl ?_
  refine z_getI (v := 39) rfl rfl ((zU_n (by decide)).trans (zU_e)) ?_
  refine z_iload rfl rfl ?_
  refine z_iast (e := p) rfl rfl (by decide) (by decide) rfl ?_
  refine z_aload rfl rfl ?_
  refine z_getR (r := 59) rfl rfl (hRr _ rm_50_12 (by decide)) ?_
  refine z_aload rfl rfl ?_
  refine z_getI (v := 39) rfl rfl ((zU_n (by decide)).trans ((zU_n (by decide)).trans (zU_e))) ?_
  refine z_iload rfl rfl ?_
  refine z_iast (e := (cN J) p (4)) rfl rfl (by decide) (by decide) rfl ?_
  refine z_aload rfl rfl ?_
  refine z_getR (r := 60) rfl rfl (hRr _ rm_50_13 (by decide)) ?_
  refine z_aload rfl rfl ?_
  refine z_getI (v := 39) rfl rfl ((zU_n (by decide)).trans ((zU_n (by decide)).trans ((zU_n (by decide)).trans (zU_e)))) ?_
  refine z_iload rfl rfl ?_
  refine z_iast (e := v) rfl rfl (by decide) (by decide) rfl ?_
  refine z_aload rfl rfl ?_
  refine z_dup rfl rfl ?_
  refine z_getI (v := 39) rfl rfl ((zU_n (by decide)).trans ((zU_n (by decide)).trans ((zU_n (by decide)).trans ((zU_n (by decide)).trans (zU_e))))) ?_
  refine z_pushI (z := 1) rfl rfl ?_
  refine z_iadd (e := 40) rfl rfl ?_
  refine z_putI (y := 8) rfl rfl rfl ?_
  refine z_aload rfl rfl ?_
  refine z_iload rfl rfl ?_
  refine z_iload rfl rfl ?_
  refine z_iload rfl rfl ?_
  refine z_callVx (As := [_, _, _]) rfl rfl rfl (Nat.le_of_ble_eq_true rfl) (Nat.le_of_ble_eq_true rfl) (lays_p (n := J 8 2) hRr y2.symm yn hp (by decide) (by omega)) ?_
  show zW _ _ _ _ _ _ _ _ _ _
  refine z_iload rfl rfl ?_
  refine z_iret rfl rfl ?_
  show zW _ _ _ _ _ _ _ _ _ _
  refine z_goto rfl ?_
  refine z_iret rfl rfl ?_
  refine ⟨?_, ?_⟩
  · first | rfl | exact congrArg (fun v => some (zi v)) (by omega) | (exfalso; omega)
  · have hs := (zK_u (a := 55) (x := p) (v := v) (zK_x (a := 50) (x := 8) (v := 40) (zK_x (a := 60) (x := 39) (v := v) (zK_x (a := 59) (x := 39) (v := (cN J) p (4)) (zK_x (a := 58) (x := 39) (v := p) (zK_x (a := 57) (x := 39) (v := 4) (zK_x (a := 50) (x := 8) (v := 39) (zK_c (a := 60) (b := 60) (sp := 1) (dp := 0) (n := 39) (zK_c (a := 59) (b := 59) (sp := 1) (dp := 0) (n := 39) (zK_c (a := 58) (b := 58) (sp := 1) (dp := 0) (n := 39) (zK_c (a := 57) (b := 57) (sp := 1) (dp := 0) (n := 39) (zK_x (a := 50) (x := 9) (v := 0) (zK_u (a := 9) (x := p * 5 + 4) (v := v) (zK_x (a := 29) (x := 6) (v := 40) (zK_x (a := 29) (x := 5) (v := 40) (zK_x (a := 33) (x := 39) (v := v) (zK_x (a := 32) (x := 39) (v := (cN J) p (4)) (zK_x (a := 31) (x := 39) (v := 4) (zK_x (a := 30) (x := 39) (v := p) (zK_c (a := 33) (b := 33) (sp := 1) (dp := 0) (n := 39) (zK_c (a := 32) (b := 32) (sp := 1) (dp := 0) (n := 39) (zK_c (a := 31) (b := 31) (sp := 1) (dp := 0) (n := 39) (zK_c (a := 30) (b := 30) (sp := 1) (dp := 0) (n := 39) (zK_x (a := 29) (x := 5) (v := 39) (zK_r (k := (kL [30, 31, 32, 33, 57, 58, 59, 60] [(29, 5), (30, 39), (31, 39), (32, 39), (33, 39), (29, 6), (50, 9), (50, 8), (57, 39), (58, 39), (59, 39), (60, 39)])) (A := J)) rfl) (fun _ => rfl)) (fun _ => rfl)) (fun _ => rfl)) (fun _ => rfl)) rfl) rfl) rfl) rfl) rfl) rfl)) rfl) (fun _ => rfl)) (fun _ => rfl)) (fun _ => rfl)) (fun _ => rfl)) rfl) rfl) rfl) rfl) rfl) rfl))
    have hY2 := RelY_k hs (by repeat' constructor) (fun p => by repeat' constructor) (RelY_p (p := p) (w := 4) hY (by omega) (by omega) hf2 (by omega) rfl rfl)
    have hok : zOkc (J 8 2) p (4) ((cN J) p (4)) v := ⟨hV, nf, hf2⟩
    have hk := (zK_x (a := 55) (x := p) (v := v) (zK_x (a := 50) (x := 8) (v := 40) (zK_x (a := 60) (x := 39) (v := v) (zK_x (a := 59) (x := 39) (v := (cN J) p (4)) (zK_x (a := 58) (x := 39) (v := p) (zK_x (a := 57) (x := 39) (v := 4) (zK_x (a := 50) (x := 8) (v := 39) (zK_c (a := 60) (b := 60) (sp := 1) (dp := 0) (n := 39) (zK_c (a := 59) (b := 59) (sp := 1) (dp := 0) (n := 39) (zK_c (a := 58) (b := 58) (sp := 1) (dp := 0) (n := 39) (zK_c (a := 57) (b := 57) (sp := 1) (dp := 0) (n := 39) (zK_x (a := 50) (x := 9) (v := 0) (zK_x (a := 9) (x := p * 5 + 4) (v := v) (zK_x (a := 29) (x := 6) (v := 40) (zK_x (a := 29) (x := 5) (v := 40) (zK_x (a := 33) (x := 39) (v := v) (zK_x (a := 32) (x := 39) (v := (cN J) p (4)) (zK_x (a := 31) (x := 39) (v := 4) (zK_x (a := 30) (x := 39) (v := p) (zK_c (a := 33) (b := 33) (sp := 1) (dp := 0) (n := 39) (zK_c (a := 32) (b := 32) (sp := 1) (dp := 0) (n := 39) (zK_c (a := 31) (b := 31) (sp := 1) (dp := 0) (n := 39) (zK_c (a := 30) (b := 30) (sp := 1) (dp := 0) (n := 39) (zK_x (a := 29) (x := 5) (v := 39) (zK_r (k := (kL [30, 31, 32, 33, 9, 57, 58, 59, 60, 55] [(29, 5), (30, 39), (31, 39), (32, 39), (33, 39), (29, 6), (50, 9), (50, 8), (57, 39), (58, 39), (59, 39), (60, 39)])) (A := J)) rfl) (fun _ => rfl)) (fun _ => rfl)) (fun _ => rfl)) (fun _ => rfl)) rfl) rfl) rfl) rfl) rfl) rfl) rfl) rfl) (fun _ => rfl)) (fun _ => rfl)) (fun _ => rfl)) (fun _ => rfl)) rfl) rfl) rfl) rfl) rfl) rfl) rfl)
    exact ⟨hR, hG, hY2, RelD_k hk (by repeat' constructor) (fun p => by repeat' constructor) hD, RelP_k hk (by repeat' constructor) (fun p => by repeat' constructor) hP, (RelC_mk (K := J) (d := 39) (o := 1) rfl rfl rfl rfl (by decide) (by decide) rfl rfl hC (by omega) (fun i i1 i2 => ⟨⟨(zU_n (by decide)).trans ((zU_n (by decide)).trans ((zU_n (by decide)).trans ((zU_n (by decide)).trans ((zU_n (by decide)).trans ((zU_n (by decide)).trans ((zU_n (by decide)).trans ((zC_n (by decide)).trans ((zC_n (by decide)).trans ((zC_n (by decide)).trans ((zC_n (by decide)).trans ((zU_n (by decide)).trans ((zU_n (by decide)).trans ((zU_n (by decide)).trans ((zU_n (by decide)).trans ((zU_n (by decide)).trans ((zU_n (by decide)).trans ((zU_n (by decide)).trans ((zU_x (by omega)).trans ((zC_n (by decide)).trans ((zC_n (by decide)).trans ((zC_n (by decide)).trans ((zC_sh (by omega)).trans ((zU_n (by decide)).trans (rfl)))))))))))))))))))))))), (zU_n (by decide)).trans ((zU_n (by decide)).trans ((zU_n (by decide)).trans ((zU_n (by decide)).trans ((zU_n (by decide)).trans ((zU_n (by decide)).trans ((zU_n (by decide)).trans ((zC_n (by decide)).trans ((zC_n (by decide)).trans ((zC_n (by decide)).trans ((zC_n (by decide)).trans ((zU_n (by decide)).trans ((zU_n (by decide)).trans ((zU_n (by decide)).trans ((zU_n (by decide)).trans ((zU_n (by decide)).trans ((zU_n (by decide)).trans ((zU_x (by omega)).trans ((zU_n (by decide)).trans ((zC_n (by decide)).trans ((zC_n (by decide)).trans ((zC_sh (by omega)).trans ((zC_n (by decide)).trans ((zU_n (by decide)).trans (rfl)))))))))))))))))))))))), (zU_n (by decide)).trans ((zU_n (by decide)).trans ((zU_n (by decide)).trans ((zU_n (by decide)).trans ((zU_n (by decide)).trans ((zU_n (by decide)).trans ((zU_n (by decide)).trans ((zC_n (by decide)).trans ((zC_n (by decide)).trans ((zC_n (by decide)).trans ((zC_n (by decide)).trans ((zU_n (by decide)).trans ((zU_n (by decide)).trans ((zU_n (by decide)).trans ((zU_n (by decide)).trans ((zU_n (by decide)).trans ((zU_x (by omega)).trans ((zU_n (by decide)).trans ((zU_n (by decide)).trans ((zC_n (by decide)).trans ((zC_sh (by omega)).trans ((zC_n (by decide)).trans ((zC_n (by decide)).trans ((zU_n (by decide)).trans (rfl)))))))))))))))))))))))), (zU_n (by decide)).trans ((zU_n (by decide)).trans ((zU_n (by decide)).trans ((zU_n (by decide)).trans ((zU_n (by decide)).trans ((zU_n (by decide)).trans ((zU_n (by decide)).trans ((zC_n (by decide)).trans ((zC_n (by decide)).trans ((zC_n (by decide)).trans ((zC_n (by decide)).trans ((zU_n (by decide)).trans ((zU_n (by decide)).trans ((zU_n (by decide)).trans ((zU_n (by decide)).trans ((zU_x (by omega)).trans ((zU_n (by decide)).trans ((zU_n (by decide)).trans ((zU_n (by decide)).trans ((zC_sh (by omega)).trans ((zC_n (by decide)).trans ((zC_n (by decide)).trans ((zC_n (by decide)).trans ((zU_n (by decide)).trans (rfl))))))))))))))))))))))))⟩, ⟨(zU_n (by decide)).trans ((zU_n (by decide)).trans ((zU_n (by decide)).trans ((zU_n (by decide)).trans ((zU_x (by omega)).trans ((zU_n (by decide)).trans ((zU_n (by decide)).trans ((zC_n (by decide)).trans ((zC_n (by decide)).trans ((zC_sh (by omega)).trans ((zC_n (by decide)).trans ((zU_n (by decide)).trans ((zU_n (by decide)).trans ((zU_n (by decide)).trans ((zU_n (by decide)).trans ((zU_n (by decide)).trans ((zU_n (by decide)).trans ((zU_n (by decide)).trans ((zU_n (by decide)).trans ((zC_n (by decide)).trans ((zC_n (by decide)).trans ((zC_n (by decide)).trans ((zC_n (by decide)).trans ((zU_n (by decide)).trans (rfl)))))))))))))))))))))))), (zU_n (by decide)).trans ((zU_n (by decide)).trans ((zU_n (by decide)).trans ((zU_n (by decide)).trans ((zU_n (by decide)).trans ((zU_x (by omega)).trans ((zU_n (by decide)).trans ((zC_n (by decide)).trans ((zC_n (by decide)).trans ((zC_n (by decide)).trans ((zC_sh (by omega)).trans ((zU_n (by decide)).trans ((zU_n (by decide)).trans ((zU_n (by decide)).trans ((zU_n (by decide)).trans ((zU_n (by decide)).trans ((zU_n (by decide)).trans ((zU_n (by decide)).trans ((zU_n (by decide)).trans ((zC_n (by decide)).trans ((zC_n (by decide)).trans ((zC_n (by decide)).trans ((zC_n (by decide)).trans ((zU_n (by decide)).trans (rfl)))))))))))))))))))))))), (zU_n (by decide)).trans ((zU_n (by decide)).trans ((zU_n (by decide)).trans ((zU_x (by omega)).trans ((zU_n (by decide)).trans ((zU_n (by decide)).trans ((zU_n (by decide)).trans ((zC_n (by decide)).trans ((zC_sh (by omega)).trans ((zC_n (by decide)).trans ((zC_n (by decide)).trans ((zU_n (by decide)).trans ((zU_n (by decide)).trans ((zU_n (by decide)).trans ((zU_n (by decide)).trans ((zU_n (by decide)).trans ((zU_n (by decide)).trans ((zU_n (by decide)).trans ((zU_n (by decide)).trans ((zC_n (by decide)).trans ((zC_n (by decide)).trans ((zC_n (by decide)).trans ((zC_n (by decide)).trans ((zU_n (by decide)).trans (rfl)))))))))))))))))))))))), (zU_n (by decide)).trans ((zU_n (by decide)).trans ((zU_x (by omega)).trans ((zU_n (by decide)).trans ((zU_n (by decide)).trans ((zU_n (by decide)).trans ((zU_n (by decide)).trans ((zC_sh (by omega)).trans ((zC_n (by decide)).trans ((zC_n (by decide)).trans ((zC_n (by decide)).trans ((zU_n (by decide)).trans ((zU_n (by decide)).trans ((zU_n (by decide)).trans ((zU_n (by decide)).trans ((zU_n (by decide)).trans ((zU_n (by decide)).trans ((zU_n (by decide)).trans ((zU_n (by decide)).trans ((zC_n (by decide)).trans ((zC_n (by decide)).trans ((zC_n (by decide)).trans ((zC_n (by decide)).trans ((zU_n (by decide)).trans (rfl))))))))))))))))))))))))⟩⟩) ((zU_n (by decide)).trans ((zU_n (by decide)).trans ((zU_n (by decide)).trans ((zU_n (by decide)).trans ((zU_n (by decide)).trans ((zU_n (by decide)).trans ((zU_n (by decide)).trans ((zC_n (by decide)).trans ((zC_n (by decide)).trans ((zC_n (by decide)).trans ((zC_n (by decide)).trans ((zU_n (by decide)).trans ((zU_n (by decide)).trans ((zU_n (by decide)).trans ((zU_n (by decide)).trans ((zU_n (by decide)).trans ((zU_n (by decide)).trans ((zU_n (by decide)).trans (zU_e))))))))))))))))))) ((zU_n (by decide)).trans ((zU_n (by decide)).trans ((zU_n (by decide)).trans ((zU_n (by decide)).trans ((zU_n (by decide)).trans ((zU_n (by decide)).trans ((zU_n (by decide)).trans ((zC_n (by decide)).trans ((zC_n (by decide)).trans ((zC_n (by decide)).trans ((zC_n (by decide)).trans ((zU_n (by decide)).trans ((zU_n (by decide)).trans ((zU_n (by decide)).trans ((zU_n (by decide)).trans ((zU_n (by decide)).trans ((zU_n (by decide)).trans (zU_e)))))))))))))))))) ((zU_n (by decide)).trans ((zU_n (by decide)).trans ((zU_n (by decide)).trans ((zU_n (by decide)).trans ((zU_n (by decide)).trans ((zU_n (by decide)).trans ((zU_n (by decide)).trans ((zC_n (by decide)).trans ((zC_n (by decide)).trans ((zC_n (by decide)).trans ((zC_n (by decide)).trans ((zU_n (by decide)).trans ((zU_n (by decide)).trans ((zU_n (by decide)).trans ((zU_n (by decide)).trans ((zU_n (by decide)).trans (zU_e))))))))))))))))) ((zU_n (by decide)).trans ((zU_n (by decide)).trans ((zU_n (by decide)).trans ((zU_n (by decide)).trans ((zU_n (by decide)).trans ((zU_n (by decide)).trans ((zU_n (by decide)).trans ((zC_n (by decide)).trans ((zC_n (by decide)).trans ((zC_n (by decide)).trans ((zC_n (by decide)).trans ((zU_n (by decide)).trans ((zU_n (by decide)).trans ((zU_n (by decide)).trans ((zU_n (by decide)).trans (zU_e)))))))))))))))) ((zU_n (by decide)).trans ((zU_n (by decide)).trans ((zU_n (by decide)).trans ((zU_n (by decide)).trans (zU_e))))) ((zU_n (by decide)).trans ((zU_n (by decide)).trans ((zU_n (by decide)).trans ((zU_n (by decide)).trans ((zU_n (by decide)).trans (zU_e)))))) ((zU_n (by decide)).trans ((zU_n (by decide)).trans ((zU_n (by decide)).trans (zU_e)))) ((zU_n (by decide)).trans ((zU_n (by decide)).trans (zU_e))) hok), RelA_k hk (by repeat' constructor) (fun p => by repeat' constructor) hAc, RelS_k hk (zK_r (k := kM)) (fun x j a b => ⟨kL_38 (by decide) (by decide) x j a b, kM_38 x j a b⟩) (fun p => ⟨rfl, rfl, rfl⟩) rfl hS, RelT_k hk (by repeat' constructor) (fun p => by repeat' constructor) hTp, RelX_k hk (by repeat' constructor) (fun p => by repeat' constructor) hX, RelW_k hk ⟨rfl, rfl⟩ trivial hW⟩
theorem st_mend {X : Nat × (Nat → Int32)} {d : Nat} {J M : zA} {R : zR} {p w v : Int} (hr : Rel X J M R) (hp : -2147483648 ≤ p ∧ p < 2147483648) (hw : -2147483648 ≤ w ∧ w < 2147483648) (hv : -2147483648 ≤ v ∧ v < 2147483648) : zW X (d + 20) 104 0 (gEn 104 [(.ref 0), (zi p), (zi w), (zi v)]) [] J M R (stP X (d + 20) 162 [(zi p), (zi w), (zi v)]) := by
  by_cases hV : zV (J 8 2) p w
  · by_cases hf : zT 2 w ≤ v ∧ v ≤ zT 3 w
    · by_cases he : (cN J) p w = v
      · exact st_mend_eq hr hp hw hv hV hf he
      · have hC : RelC J := hr.2.2.2.2.2.1
        obtain ⟨c1, c2, c3, c4, c5, c6⟩ := hC
        by_cases h40 : J 29 5 = 40
        · by_cases hg : 5 ≤ w
          · exact st_mend4_g hr hp hw hv hV hf he h40 hg
          · have e : w = 0 ∨ w = 1 ∨ w = 2 ∨ w = 3 ∨ w = 4 := by unfold zV at hV; omega
            rcases e with rfl | rfl | rfl | rfl | rfl
            · exact st_mend4_p0 hr hp hv hV hf he h40
            · exact st_mend4_p1 hr hp hv hV hf he h40
            · exact st_mend4_p2 hr hp hv hV hf he h40
            · exact st_mend4_p3 hr hp hv hV hf he h40
            · exact st_mend4_p4 hr hp hv hV hf he h40
        · have h40 : J 29 5 < 40 := by omega
          by_cases hg : 5 ≤ w
          · exact st_mend_g hr hp hw hv hV hf he h40 hg
          · have e : w = 0 ∨ w = 1 ∨ w = 2 ∨ w = 3 ∨ w = 4 := by unfold zV at hV; omega
            rcases e with rfl | rfl | rfl | rfl | rfl
            · exact st_mend_p0 hr hp hv hV hf he h40
            · exact st_mend_p1 hr hp hv hV hf he h40
            · exact st_mend_p2 hr hp hv hV hf he h40
            · exact st_mend_p3 hr hp hv hV hf he h40
            · exact st_mend_p4 hr hp hv hV hf he h40
    · exact st_mend_nf hr hp hw hv hV hf
  · exact st_mend_nv hr hp hw hv hV
