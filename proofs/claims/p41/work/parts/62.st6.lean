noncomputable def kHi (x : Nat) (_ : Int) : Bool := Nat.ble 50 x
theorem kHi_t {x : Nat} {j : Int} (h : 50 ≤ x) : kHi x j = true := Nat.ble_eq_true_of_le h
theorem rN_z {A J : zA} (h : zK kHi A J) : rN J = rN A := by
  funext p w
  unfold rN
  have q1 : J 50 1 = A 50 1 := h 50 1 rfl
  have q2 : ∀ i, J 56 i = A 56 i := fun i => h 56 i rfl
  have q3 : ∀ (c : Nat) i, J (51 + c) i = A (51 + c) i := fun c i => h _ i (kHi_t (by omega))
  simp only [q1, q2, q3]
theorem RelC_mk {J K : zA} {d o n a b c e : Int} (h5 : J 29 5 = d + 1) (h6 : J 29 6 = d + 1) (h8 : J 50 8 = d + 1) (h9 : J 50 9 = 0) (hd : 0 ≤ d ∧ d ≤ 39) (ho : 0 ≤ o) (hn : J 8 2 = n) (hn2 : K 8 2 = n) (hK : RelC K) (hk : d + o ≤ K 29 6)
    (hi : ∀ i, 0 ≤ i → i < d → (J 30 i = K 30 (i + o) ∧ J 31 i = K 31 (i + o) ∧ J 32 i = K 32 (i + o) ∧ J 33 i = K 33 (i + o)) ∧ (J 58 i = K 58 (i + o) ∧ J 57 i = K 57 (i + o) ∧ J 59 i = K 59 (i + o) ∧ J 60 i = K 60 (i + o)))
    (e30 : J 30 d = a) (e31 : J 31 d = b) (e32 : J 32 d = c) (e33 : J 33 d = e) (e58 : J 58 d = a) (e57 : J 57 d = b) (e59 : J 59 d = c) (e60 : J 60 d = e) (hok : zOkc n a b c e) : RelC J := by
  refine ⟨by rw [h5, h8], by rw [h6, h8, h9]; omega, by rw [h8]; omega, by rw [h9]; omega, by rw [h8, h9]; omega, fun i i1 i2 => ?_⟩
  rw [h6] at i2
  by_cases q : i = d
  · subst q
    rw [e30, e31, e32, e33, e58, e57, e59, e60, hn]
    exact ⟨⟨rfl, rfl, rfl, rfl⟩, hok⟩
  · have r := hK.2.2.2.2.2 (i + o) (by omega) (by omega)
    obtain ⟨⟨x1, x2, x3, x4⟩, y1, y2, y3, y4⟩ := hi i i1 (by omega)
    rw [x1, x2, x3, x4, y1, y2, y3, y4, hn, ← hn2]
    exact r
theorem st_mend_p0 {X : Nat × (Nat → Int32)} {d : Nat} {J M : zA} {R : zR} {p v : Int} (hr : Rel X J M R) (hp : -2147483648 ≤ p ∧ p < 2147483648) (hv : -2147483648 ≤ v ∧ v < 2147483648) (hV : zV (J 8 2) p (0)) (hf : zT 2 (0) ≤ v ∧ v ≤ zT 3 (0)) (he : ¬ (cN J) p (0) = v) (h40 : J 29 5 < 40) : zW X (d + 20) 104 0 (gEn 104 [(.ref 0), (zi p), (zi 0), (zi v)]) [] J M R (stP X (d + 20) 162 [(zi p), (zi 0), (zi v)]) := by
  have hr0 := hr
  obtain ⟨hR, hG, hY, hD, hP, hC, hAc, hS, hTp, hX, hW⟩ := hr0
  have hRr : zRoR R := zRoR_of hR
  have hY0 := hY
  obtain ⟨y1, y2, y3⟩ := hY0
  have yn := zNn y3
  have hC0 := hC
  obtain ⟨c1, c2, c3, c4, c5, c6⟩ := hC0
  have nr := zN_r y3 hV
  have nf := zN_fit y3 hV
  have hf2 : zFit (0) v := hf
  show zW _ _ _ _ [some (.ref 0), some (zi p), some (zi 0), some (zi v), none] _ _ _ _ _
  refine z_aload0 gi_104_0 ?_
  refine z_getR (r := 8) gi_104_1 gk_0 (hR _ rm_0_1) ?_
  refine z_iload1 gi_104_4 ?_
  refine z_iload2 gi_104_5 ?_
  refine z_callVP (As := [_, _]) (v := 1) gi_104_6 rfl gk_8 (Nat.le_of_ble_eq_true rfl) (Nat.le_of_ble_eq_true rfl) (isNumber_1 hR rfl yn hp (by decide) hV) ?_
  refine z_if_eqF gi_104_9 zr_1 (by decide) ?_
  refine z_iload2 gi_104_12 ?_
  refine z_iload3 gi_104_13 ?_
  refine z_callSP (As := [_, _]) (v := 1) gi_104_14 rfl (Nat.le_of_ble_eq_true rfl) (Nat.le_of_ble_eq_true rfl) (isFit_1 hv (by decide) (by omega) hf) ?_
  refine z_if_neT gi_104_17 zr_1 (by decide) ?_
  refine z_aload0 gi_104_22 ?_
  refine z_getR (r := 8) gi_104_23 gk_0 (hR _ rm_0_1) ?_
  refine z_iload1 gi_104_26 ?_
  refine z_iload2 gi_104_27 ?_
  refine z_callVP (As := [_, _]) (v := (cN J) p (0)) gi_104_28 rfl gk_8 (Nat.le_of_ble_eq_true rfl) (Nat.le_of_ble_eq_true rfl) (told_k hR zK_r rfl rfl y3 hp (by decide)) ?_
  refine z_istore (ls1 := [some (.ref 0), some (zi p), some (zi 0), some (zi v), some (zi ((cN J) p (0)))]) gi_104_31 rfl ?_
  refine z_iload4 gi_104_33 ?_
  refine z_iload3 gi_104_35 ?_
  refine z_icmp_eqF gi_104_36 (by omega) (by omega) (by omega) ?_
  refine z_aload0 gi_104_39 ?_
  refine z_getR (r := 29) gi_104_40 gk_0 (hR _ rm_0_9) ?_
  refine z_iload1 gi_104_43 ?_
  refine z_iload2 gi_104_44 ?_
  refine z_iload4 gi_104_45 ?_
  refine z_iload3 gi_104_47 ?_
  refine z_cV4 gi_104_48 gk_29 go_14 (Nat.le_of_ble_eq_true rfl) gc_14_RIIII ?_
  refine z_aload0 gi_14_0 ?_
  refine z_getI (v := J 29 5) gi_14_1 gk_29 (rfl) ?_
  refine z_pushJ gp_14_4 ?_
  refine z_icmp_ltT gi_14_6 (by omega) zr_40 (by omega) ?_
  refine z_aload0 gi_14_13 ?_
  refine z_getR (r := 30) gi_14_14 gk_29 (hR _ rm_29_1) ?_
  refine z_aload0 gi_14_17 ?_
  refine z_getI (v := J 29 5) gi_14_18 gk_29 (rfl) ?_
  refine z_iload1 gi_14_21 ?_
  refine z_iast (e := p) gi_14_22 gk_30 (by decide) (by omega) rfl ?_
  refine z_aload0 gi_14_23 ?_
  refine z_getR (r := 31) gi_14_24 gk_29 (hR _ rm_29_2) ?_
  refine z_aload0 gi_14_27 ?_
  refine z_getI (v := J 29 5) gi_14_28 gk_29 ((zU_n (by decide)).trans (rfl)) ?_
  refine z_iload2 gi_14_31 ?_
  refine z_iast (e := 0) gi_14_32 gk_31 (by decide) (by omega) rfl ?_
  refine z_aload0 gi_14_33 ?_
  refine z_getR (r := 32) gi_14_34 gk_29 (hR _ rm_29_3) ?_
  refine z_aload0 gi_14_37 ?_
  refine z_getI (v := J 29 5) gi_14_38 gk_29 ((zU_n (by decide)).trans ((zU_n (by decide)).trans (rfl))) ?_
  refine z_iload3 gi_14_41 ?_
  refine z_iast (e := (cN J) p (0)) gi_14_42 gk_32 (by decide) (by omega) rfl ?_
  refine z_aload0 gi_14_43 ?_
  refine z_getR (r := 33) gi_14_44 gk_29 (hR _ rm_29_4) ?_
  refine z_aload0 gi_14_47 ?_
  refine z_getI (v := J 29 5) gi_14_48 gk_29 ((zU_n (by decide)).trans ((zU_n (by decide)).trans ((zU_n (by decide)).trans (rfl)))) ?_
  refine z_iload4 gi_14_51 ?_
  refine z_iast (e := v) gi_14_53 gk_33 (by decide) (by omega) rfl ?_
  refine z_aload0 gi_14_54 ?_
  refine z_dup gi_14_55 rfl ?_
  refine z_getI (v := J 29 5) gi_14_56 gk_29 ((zU_n (by decide)).trans ((zU_n (by decide)).trans ((zU_n (by decide)).trans ((zU_n (by decide)).trans (rfl))))) ?_
  refine z_pushJ gp_14_59 ?_
  refine z_iadd (e := (J 29 5) + 1) gi_14_60 rfl ?_
  refine z_putI (y := 5) gi_14_61 rfl gk_29 ?_
  refine z_aload0 gi_14_64 ?_
  refine z_aload0 gi_14_65 ?_
  refine z_getI (v := (J 29 5) + 1) gi_14_66 gk_29 (zU_e) ?_
  refine z_putI (y := 6) gi_14_69 rfl gk_29 ?_
  refine z_vret gi_14_72 gr_14 ?_
  show zW _ _ _ _ _ _ _ _ _ _
  refine z_aload0 gi_104_51 ?_
  refine z_getR (r := 8) gi_104_52 gk_0 (hR _ rm_0_1) ?_
  refine z_iload1 gi_104_55 ?_
  refine z_iload2 gi_104_56 ?_
  refine z_iload3 gi_104_57 ?_
  refine z_callVx (As := [_, _, _]) gi_104_58 rfl gk_8 (Nat.le_of_ble_eq_true rfl) (Nat.le_of_ble_eq_true rfl) (tell_p (n := J 8 2) hR rfl yn hp (by decide) (by omega)) ?_
  show zW _ _ _ _ _ _ _ _ _ _
  refine z_iload4 gi_104_61 ?_
  refine z_iret gi_104_63 gr_104 ?_
  refine ⟨_, rfl, ?_⟩
  show zW _ _ _ _ [some (.ref 50), some (zi p), some (zi 0), some (zi v)] _ _ _ _ _
  refine z_aload0 gi_162_0 ?_
  refine z_iload1 gi_162_1 ?_
  refine z_iload2 gi_162_2 ?_
  refine z_callVP (As := [_, _]) (v := 1) gi_162_3 rfl gk_50 (Nat.le_of_ble_eq_true rfl) (Nat.le_of_ble_eq_true rfl) (isOne_1 hRr y2.symm yn hp (by decide) hV) ?_
  refine z_if_eqF gi_162_6 zr_1 (by decide) ?_
  refine z_iload2 gi_162_9 ?_
  refine z_iload3 gi_162_10 ?_
  refine z_callSP (As := [_, _]) (v := 1) gi_162_11 rfl (Nat.le_of_ble_eq_true rfl) (Nat.le_of_ble_eq_true rfl) (mayBe_1 hv (by decide) (by omega) hf) ?_
  refine z_if_eqF gi_162_14 zr_1 (by decide) ?_
  refine z_aload0 gi_162_17 ?_
  refine z_iload2 gi_162_18 ?_
  refine z_iload1 gi_162_19 ?_
  refine z_iload3 gi_162_20 ?_
  refine z_callVi (As := [_, _, _]) (le := [some _, some _, some _, some _, none, none]) gi_162_21 rfl gk_50 (Nat.le_of_ble_eq_true rfl) (Nat.le_of_ble_eq_true rfl) rfl ?_
  refine z_aload0 gi_157_0 ?_
  refine z_iload1 gi_157_1 ?_
  refine z_iload2 gi_157_2 ?_
  refine z_callVP (As := [_, _]) (v := (cN J) p (0)) gi_157_3 rfl gk_50 (Nat.le_of_ble_eq_true rfl) (Nat.le_of_ble_eq_true rfl) (valueAt_s hRr ((rN_z (zK_x (a := 9) (x := p * 5 + 0) (v := v) (zK_x (a := 29) (x := 6) (v := (J 29 5) + 1) (zK_x (a := 29) (x := 5) (v := (J 29 5) + 1) (zK_x (a := 33) (x := J 29 5) (v := v) (zK_x (a := 32) (x := J 29 5) (v := (cN J) p (0)) (zK_x (a := 31) (x := J 29 5) (v := 0) (zK_x (a := 30) (x := J 29 5) (v := p) (zK_r (k := kHi) (A := J)) rfl) rfl) rfl) rfl) rfl) rfl) rfl)).trans y1.symm) y2.symm y3 hp (by decide) hV) ?_
  refine z_istore (ls1 := [some (.ref 50), some (zi 0), some (zi p), some (zi v), some (zi ((cN J) p (0))), none]) gi_157_6 rfl ?_
  refine z_iload4 gi_157_8 ?_
  refine z_iload3 gi_157_10 ?_
  refine z_icmp_neT gi_157_11 (by omega) (by omega) (by omega) ?_
  refine z_aload0 gi_157_17 ?_
  refine z_pushJ gp_157_18 ?_
  refine z_putI (y := 9) gi_157_19 rfl gk_50 ?_
  refine z_aload0 gi_157_22 ?_
  refine z_getI (v := J 29 5) gi_157_23 gk_50 ((zU_x (by decide)).trans ((zU_n (by decide)).trans ((zU_n (by decide)).trans ((zU_n (by decide)).trans ((zU_n (by decide)).trans ((zU_n (by decide)).trans ((zU_n (by decide)).trans ((zU_n (by decide)).trans (c1.symm))))))))) ?_
  refine z_pushJ gp_157_26 ?_
  refine z_icmp_neT gi_157_28 (by omega) zr_40 (by omega) ?_
  refine z_aload0 gi_157_121 ?_
  refine z_getR (r := 57) gi_157_122 gk_50 (hRr _ rm_50_10 (by decide)) ?_
  refine z_aload0 gi_157_125 ?_
  refine z_getI (v := J 29 5) gi_157_126 gk_50 ((zU_x (by decide)).trans ((zU_n (by decide)).trans ((zU_n (by decide)).trans ((zU_n (by decide)).trans ((zU_n (by decide)).trans ((zU_n (by decide)).trans ((zU_n (by decide)).trans ((zU_n (by decide)).trans (c1.symm))))))))) ?_
  refine z_iload1 gi_157_129 ?_
  refine z_iast (e := 0) gi_157_130 gk_57 (by decide) (by omega) rfl ?_
  refine z_aload0 gi_157_131 ?_
  refine z_getR (r := 58) gi_157_132 gk_50 (hRr _ rm_50_11 (by decide)) ?_
  refine z_aload0 gi_157_135 ?_
  refine z_getI (v := J 29 5) gi_157_136 gk_50 ((zU_n (by decide)).trans ((zU_x (by decide)).trans ((zU_n (by decide)).trans ((zU_n (by decide)).trans ((zU_n (by decide)).trans ((zU_n (by decide)).trans ((zU_n (by decide)).trans ((zU_n (by decide)).trans ((zU_n (by decide)).trans (c1.symm)))))))))) ?_
  refine z_iload2 gi_157_139 ?_
  refine z_iast (e := p) gi_157_140 gk_58 (by decide) (by omega) rfl ?_
  refine z_aload0 gi_157_141 ?_
  refine z_getR (r := 59) gi_157_142 gk_50 (hRr _ rm_50_12 (by decide)) ?_
  refine z_aload0 gi_157_145 ?_
  refine z_getI (v := J 29 5) gi_157_146 gk_50 ((zU_n (by decide)).trans ((zU_n (by decide)).trans ((zU_x (by decide)).trans ((zU_n (by decide)).trans ((zU_n (by decide)).trans ((zU_n (by decide)).trans ((zU_n (by decide)).trans ((zU_n (by decide)).trans ((zU_n (by decide)).trans ((zU_n (by decide)).trans (c1.symm))))))))))) ?_
  refine z_iload4 gi_157_149 ?_
  refine z_iast (e := (cN J) p (0)) gi_157_151 gk_59 (by decide) (by omega) rfl ?_
  refine z_aload0 gi_157_152 ?_
  refine z_getR (r := 60) gi_157_153 gk_50 (hRr _ rm_50_13 (by decide)) ?_
  refine z_aload0 gi_157_156 ?_
  refine z_getI (v := J 29 5) gi_157_157 gk_50 ((zU_n (by decide)).trans ((zU_n (by decide)).trans ((zU_n (by decide)).trans ((zU_x (by decide)).trans ((zU_n (by decide)).trans ((zU_n (by decide)).trans ((zU_n (by decide)).trans ((zU_n (by decide)).trans ((zU_n (by decide)).trans ((zU_n (by decide)).trans ((zU_n (by decide)).trans (c1.symm)))))))))))) ?_
  refine z_iload3 gi_157_160 ?_
  refine z_iast (e := v) gi_157_161 gk_60 (by decide) (by omega) rfl ?_
  refine z_aload0 gi_157_162 ?_
  refine z_dup gi_157_163 rfl ?_
  refine z_getI (v := J 29 5) gi_157_164 gk_50 ((zU_n (by decide)).trans ((zU_n (by decide)).trans ((zU_n (by decide)).trans ((zU_n (by decide)).trans ((zU_x (by decide)).trans ((zU_n (by decide)).trans ((zU_n (by decide)).trans ((zU_n (by decide)).trans ((zU_n (by decide)).trans ((zU_n (by decide)).trans ((zU_n (by decide)).trans ((zU_n (by decide)).trans (c1.symm))))))))))))) ?_
  refine z_pushJ gp_157_167 ?_
  refine z_iadd (e := (J 29 5) + 1) gi_157_168 rfl ?_
  refine z_putI (y := 8) gi_157_169 rfl gk_50 ?_
  refine z_aload0 gi_157_172 ?_
  refine z_iload1 gi_157_173 ?_
  refine z_iload2 gi_157_174 ?_
  refine z_iload3 gi_157_175 ?_
  refine z_callVx (As := [_, _, _]) gi_157_176 rfl gk_50 (Nat.le_of_ble_eq_true rfl) (Nat.le_of_ble_eq_true rfl) (lays_p (n := J 8 2) hRr y2.symm yn hp (by decide) (by omega)) ?_
  show zW _ _ _ _ _ _ _ _ _ _
  refine z_iload4 gi_157_179 ?_
  refine z_iret gi_157_181 gr_157 ?_
  show zW _ _ _ _ _ _ _ _ _ _
  refine z_goto gi_162_24 ?_
  refine z_iret gi_162_28 gr_162 ?_
  refine ⟨?_, ?_⟩
  · first | rfl | exact congrArg (fun v => some (zi v)) (by omega) | (exfalso; omega)
  · have hs := (zK_u (a := 51) (x := p) (v := v) (zK_x (a := 50) (x := 8) (v := (J 29 5) + 1) (zK_x (a := 60) (x := J 29 5) (v := v) (zK_x (a := 59) (x := J 29 5) (v := (cN J) p (0)) (zK_x (a := 58) (x := J 29 5) (v := p) (zK_x (a := 57) (x := J 29 5) (v := 0) (zK_x (a := 50) (x := 9) (v := 0) (zK_u (a := 9) (x := p * 5 + 0) (v := v) (zK_x (a := 29) (x := 6) (v := (J 29 5) + 1) (zK_x (a := 29) (x := 5) (v := (J 29 5) + 1) (zK_x (a := 33) (x := J 29 5) (v := v) (zK_x (a := 32) (x := J 29 5) (v := (cN J) p (0)) (zK_x (a := 31) (x := J 29 5) (v := 0) (zK_x (a := 30) (x := J 29 5) (v := p) (zK_r (k := (kL [30, 31, 32, 33, 57, 58, 59, 60] [(29, 5), (29, 6), (50, 9), (50, 8)])) (A := J)) rfl) rfl) rfl) rfl) rfl) rfl)) rfl) rfl) rfl) rfl) rfl) rfl))
    have hY2 := RelY_k hs (by repeat' constructor) (fun p => by repeat' constructor) (RelY_p (p := p) (w := 0) hY (by omega) (by omega) hf2 (by omega) rfl rfl)
    have hok : zOkc (J 8 2) p (0) ((cN J) p (0)) v := ⟨hV, nf, hf2⟩
    have hk := (zK_x (a := 51) (x := p) (v := v) (zK_x (a := 50) (x := 8) (v := (J 29 5) + 1) (zK_x (a := 60) (x := J 29 5) (v := v) (zK_x (a := 59) (x := J 29 5) (v := (cN J) p (0)) (zK_x (a := 58) (x := J 29 5) (v := p) (zK_x (a := 57) (x := J 29 5) (v := 0) (zK_x (a := 50) (x := 9) (v := 0) (zK_x (a := 9) (x := p * 5 + 0) (v := v) (zK_x (a := 29) (x := 6) (v := (J 29 5) + 1) (zK_x (a := 29) (x := 5) (v := (J 29 5) + 1) (zK_x (a := 33) (x := J 29 5) (v := v) (zK_x (a := 32) (x := J 29 5) (v := (cN J) p (0)) (zK_x (a := 31) (x := J 29 5) (v := 0) (zK_x (a := 30) (x := J 29 5) (v := p) (zK_r (k := (kL [30, 31, 32, 33, 9, 57, 58, 59, 60, 51] [(29, 5), (29, 6), (50, 9), (50, 8)])) (A := J)) rfl) rfl) rfl) rfl) rfl) rfl) rfl) rfl) rfl) rfl) rfl) rfl) rfl) rfl)
    exact ⟨hR, hG, hY2, RelD_k hk (by repeat' constructor) (fun p => by repeat' constructor) hD, RelP_k hk (by repeat' constructor) (fun p => by repeat' constructor) hP, (RelC_mk (K := J) (d := J 29 5) (o := 0) rfl rfl rfl rfl (by omega) (by omega) rfl rfl hC (by omega) (fun i i1 i2 => ⟨⟨by rw [Int.add_zero i]; exact (zU_n (by decide)).trans ((zU_n (by decide)).trans ((zU_n (by decide)).trans ((zU_n (by decide)).trans ((zU_n (by decide)).trans ((zU_n (by decide)).trans ((zU_n (by decide)).trans ((zU_n (by decide)).trans ((zU_n (by decide)).trans ((zU_n (by decide)).trans ((zU_n (by decide)).trans ((zU_n (by decide)).trans ((zU_n (by decide)).trans ((zU_x (by omega)).trans (rfl)))))))))))))), by rw [Int.add_zero i]; exact (zU_n (by decide)).trans ((zU_n (by decide)).trans ((zU_n (by decide)).trans ((zU_n (by decide)).trans ((zU_n (by decide)).trans ((zU_n (by decide)).trans ((zU_n (by decide)).trans ((zU_n (by decide)).trans ((zU_n (by decide)).trans ((zU_n (by decide)).trans ((zU_n (by decide)).trans ((zU_n (by decide)).trans ((zU_x (by omega)).trans ((zU_n (by decide)).trans (rfl)))))))))))))), by rw [Int.add_zero i]; exact (zU_n (by decide)).trans ((zU_n (by decide)).trans ((zU_n (by decide)).trans ((zU_n (by decide)).trans ((zU_n (by decide)).trans ((zU_n (by decide)).trans ((zU_n (by decide)).trans ((zU_n (by decide)).trans ((zU_n (by decide)).trans ((zU_n (by decide)).trans ((zU_n (by decide)).trans ((zU_x (by omega)).trans ((zU_n (by decide)).trans ((zU_n (by decide)).trans (rfl)))))))))))))), by rw [Int.add_zero i]; exact (zU_n (by decide)).trans ((zU_n (by decide)).trans ((zU_n (by decide)).trans ((zU_n (by decide)).trans ((zU_n (by decide)).trans ((zU_n (by decide)).trans ((zU_n (by decide)).trans ((zU_n (by decide)).trans ((zU_n (by decide)).trans ((zU_n (by decide)).trans ((zU_x (by omega)).trans ((zU_n (by decide)).trans ((zU_n (by decide)).trans ((zU_n (by decide)).trans (rfl))))))))))))))⟩, ⟨by rw [Int.add_zero i]; exact (zU_n (by decide)).trans ((zU_n (by decide)).trans ((zU_n (by decide)).trans ((zU_n (by decide)).trans ((zU_x (by omega)).trans ((zU_n (by decide)).trans ((zU_n (by decide)).trans ((zU_n (by decide)).trans ((zU_n (by decide)).trans ((zU_n (by decide)).trans ((zU_n (by decide)).trans ((zU_n (by decide)).trans ((zU_n (by decide)).trans ((zU_n (by decide)).trans (rfl)))))))))))))), by rw [Int.add_zero i]; exact (zU_n (by decide)).trans ((zU_n (by decide)).trans ((zU_n (by decide)).trans ((zU_n (by decide)).trans ((zU_n (by decide)).trans ((zU_x (by omega)).trans ((zU_n (by decide)).trans ((zU_n (by decide)).trans ((zU_n (by decide)).trans ((zU_n (by decide)).trans ((zU_n (by decide)).trans ((zU_n (by decide)).trans ((zU_n (by decide)).trans ((zU_n (by decide)).trans (rfl)))))))))))))), by rw [Int.add_zero i]; exact (zU_n (by decide)).trans ((zU_n (by decide)).trans ((zU_n (by decide)).trans ((zU_x (by omega)).trans ((zU_n (by decide)).trans ((zU_n (by decide)).trans ((zU_n (by decide)).trans ((zU_n (by decide)).trans ((zU_n (by decide)).trans ((zU_n (by decide)).trans ((zU_n (by decide)).trans ((zU_n (by decide)).trans ((zU_n (by decide)).trans ((zU_n (by decide)).trans (rfl)))))))))))))), by rw [Int.add_zero i]; exact (zU_n (by decide)).trans ((zU_n (by decide)).trans ((zU_x (by omega)).trans ((zU_n (by decide)).trans ((zU_n (by decide)).trans ((zU_n (by decide)).trans ((zU_n (by decide)).trans ((zU_n (by decide)).trans ((zU_n (by decide)).trans ((zU_n (by decide)).trans ((zU_n (by decide)).trans ((zU_n (by decide)).trans ((zU_n (by decide)).trans ((zU_n (by decide)).trans (rfl))))))))))))))⟩⟩) ((zU_n (by decide)).trans ((zU_n (by decide)).trans ((zU_n (by decide)).trans ((zU_n (by decide)).trans ((zU_n (by decide)).trans ((zU_n (by decide)).trans ((zU_n (by decide)).trans ((zU_n (by decide)).trans ((zU_n (by decide)).trans ((zU_n (by decide)).trans ((zU_n (by decide)).trans ((zU_n (by decide)).trans ((zU_n (by decide)).trans (zU_e)))))))))))))) ((zU_n (by decide)).trans ((zU_n (by decide)).trans ((zU_n (by decide)).trans ((zU_n (by decide)).trans ((zU_n (by decide)).trans ((zU_n (by decide)).trans ((zU_n (by decide)).trans ((zU_n (by decide)).trans ((zU_n (by decide)).trans ((zU_n (by decide)).trans ((zU_n (by decide)).trans ((zU_n (by decide)).trans (zU_e))))))))))))) ((zU_n (by decide)).trans ((zU_n (by decide)).trans ((zU_n (by decide)).trans ((zU_n (by decide)).trans ((zU_n (by decide)).trans ((zU_n (by decide)).trans ((zU_n (by decide)).trans ((zU_n (by decide)).trans ((zU_n (by decide)).trans ((zU_n (by decide)).trans ((zU_n (by decide)).trans (zU_e)))))))))))) ((zU_n (by decide)).trans ((zU_n (by decide)).trans ((zU_n (by decide)).trans ((zU_n (by decide)).trans ((zU_n (by decide)).trans ((zU_n (by decide)).trans ((zU_n (by decide)).trans ((zU_n (by decide)).trans ((zU_n (by decide)).trans ((zU_n (by decide)).trans (zU_e))))))))))) ((zU_n (by decide)).trans ((zU_n (by decide)).trans ((zU_n (by decide)).trans ((zU_n (by decide)).trans (zU_e))))) ((zU_n (by decide)).trans ((zU_n (by decide)).trans ((zU_n (by decide)).trans ((zU_n (by decide)).trans ((zU_n (by decide)).trans (zU_e)))))) ((zU_n (by decide)).trans ((zU_n (by decide)).trans ((zU_n (by decide)).trans (zU_e)))) ((zU_n (by decide)).trans ((zU_n (by decide)).trans (zU_e))) hok), RelA_k hk (by repeat' constructor) (fun p => by repeat' constructor) hAc, RelS_k hk (zK_r (k := kM)) (fun x j a b => ⟨kL_38 (by decide) (by decide) x j a b, kM_38 x j a b⟩) (fun p => ⟨rfl, rfl, rfl⟩) rfl hS, RelT_k hk (by repeat' constructor) (fun p => by repeat' constructor) hTp, RelX_k hk (by repeat' constructor) (fun p => by repeat' constructor) hX, RelW_k hk ⟨rfl, rfl⟩ trivial hW⟩
theorem st_mend_g {X : Nat × (Nat → Int32)} {d : Nat} {J M : zA} {R : zR} {p w v : Int} (hr : Rel X J M R) (hp : -2147483648 ≤ p ∧ p < 2147483648) (hw : -2147483648 ≤ w ∧ w < 2147483648) (hv : -2147483648 ≤ v ∧ v < 2147483648) (hV : zV (J 8 2) p w) (hf : zT 2 w ≤ v ∧ v ≤ zT 3 w) (he : ¬ (cN J) p w = v) (h40 : J 29 5 < 40) (hg : 5 ≤ w) : zW X (d + 20) 104 0 (gEn 104 [(.ref 0), (zi p), (zi w), (zi v)]) [] J M R (stP X (d + 20) 162 [(zi p), (zi w), (zi v)]) := by
  have hr0 := hr
  obtain ⟨hR, hG, hY, hD, hP, hC, hAc, hS, hTp, hX, hW⟩ := hr0
  have hRr : zRoR R := zRoR_of hR
  have hY0 := hY
  obtain ⟨y1, y2, y3⟩ := hY0
  have yn := zNn y3
  have hC0 := hC
  obtain ⟨c1, c2, c3, c4, c5, c6⟩ := hC0
  have nr := zN_r y3 hV
  have nf := zN_fit y3 hV
  have hf2 : zFit w v := hf
  show zW _ _ _ _ [some (.ref 0), some (zi p), some (zi w), some (zi v), none] _ _ _ _ _
  refine z_aload0 gi_104_0 ?_
  refine z_getR (r := 8) gi_104_1 gk_0 (hR _ rm_0_1) ?_
  refine z_iload1 gi_104_4 ?_
  refine z_iload2 gi_104_5 ?_
  refine z_callVP (As := [_, _]) (v := 1) gi_104_6 rfl gk_8 (Nat.le_of_ble_eq_true rfl) (Nat.le_of_ble_eq_true rfl) (isNumber_1 hR rfl yn hp hw hV) ?_
  refine z_if_eqF gi_104_9 zr_1 (by decide) ?_
  refine z_iload2 gi_104_12 ?_
  refine z_iload3 gi_104_13 ?_
  refine z_callSP (As := [_, _]) (v := 1) gi_104_14 rfl (Nat.le_of_ble_eq_true rfl) (Nat.le_of_ble_eq_true rfl) (isFit_1 hv hw (by omega) hf) ?_
  refine z_if_neT gi_104_17 zr_1 (by decide) ?_
  refine z_aload0 gi_104_22 ?_
  refine z_getR (r := 8) gi_104_23 gk_0 (hR _ rm_0_1) ?_
  refine z_iload1 gi_104_26 ?_
  refine z_iload2 gi_104_27 ?_
  refine z_callVP (As := [_, _]) (v := (cN J) p w) gi_104_28 rfl gk_8 (Nat.le_of_ble_eq_true rfl) (Nat.le_of_ble_eq_true rfl) (told_k hR zK_r rfl rfl y3 hp hw) ?_
  refine z_istore (ls1 := [some (.ref 0), some (zi p), some (zi w), some (zi v), some (zi ((cN J) p w))]) gi_104_31 rfl ?_
  refine z_iload4 gi_104_33 ?_
  refine z_iload3 gi_104_35 ?_
  refine z_icmp_eqF gi_104_36 (by omega) (by omega) (by omega) ?_
  refine z_aload0 gi_104_39 ?_
  refine z_getR (r := 29) gi_104_40 gk_0 (hR _ rm_0_9) ?_
  refine z_iload1 gi_104_43 ?_
  refine z_iload2 gi_104_44 ?_
  refine z_iload4 gi_104_45 ?_
  refine z_iload3 gi_104_47 ?_
  refine z_cV4 gi_104_48 gk_29 go_14 (Nat.le_of_ble_eq_true rfl) gc_14_RIIII ?_
  refine z_aload0 gi_14_0 ?_
  refine z_getI (v := J 29 5) gi_14_1 gk_29 (rfl) ?_
  refine z_pushJ gp_14_4 ?_
  refine z_icmp_ltT gi_14_6 (by omega) zr_40 (by omega) ?_
  refine z_aload0 gi_14_13 ?_
  refine z_getR (r := 30) gi_14_14 gk_29 (hR _ rm_29_1) ?_
  refine z_aload0 gi_14_17 ?_
  refine z_getI (v := J 29 5) gi_14_18 gk_29 (rfl) ?_
  refine z_iload1 gi_14_21 ?_
  refine z_iast (e := p) gi_14_22 gk_30 (by decide) (by omega) rfl ?_
  refine z_aload0 gi_14_23 ?_
  refine z_getR (r := 31) gi_14_24 gk_29 (hR _ rm_29_2) ?_
  refine z_aload0 gi_14_27 ?_
  refine z_getI (v := J 29 5) gi_14_28 gk_29 ((zU_n (by decide)).trans (rfl)) ?_
  refine z_iload2 gi_14_31 ?_
  refine z_iast (e := w) gi_14_32 gk_31 (by decide) (by omega) rfl ?_
  refine z_aload0 gi_14_33 ?_
  refine z_getR (r := 32) gi_14_34 gk_29 (hR _ rm_29_3) ?_
  refine z_aload0 gi_14_37 ?_
  refine z_getI (v := J 29 5) gi_14_38 gk_29 ((zU_n (by decide)).trans ((zU_n (by decide)).trans (rfl))) ?_
  refine z_iload3 gi_14_41 ?_
  refine z_iast (e := (cN J) p w) gi_14_42 gk_32 (by decide) (by omega) rfl ?_
  refine z_aload0 gi_14_43 ?_
  refine z_getR (r := 33) gi_14_44 gk_29 (hR _ rm_29_4) ?_
  refine z_aload0 gi_14_47 ?_
  refine z_getI (v := J 29 5) gi_14_48 gk_29 ((zU_n (by decide)).trans ((zU_n (by decide)).trans ((zU_n (by decide)).trans (rfl)))) ?_
  refine z_iload4 gi_14_51 ?_
  refine z_iast (e := v) gi_14_53 gk_33 (by decide) (by omega) rfl ?_
  refine z_aload0 gi_14_54 ?_
  refine z_dup gi_14_55 rfl ?_
  refine z_getI (v := J 29 5) gi_14_56 gk_29 ((zU_n (by decide)).trans ((zU_n (by decide)).trans ((zU_n (by decide)).trans ((zU_n (by decide)).trans (rfl))))) ?_
  refine z_pushJ gp_14_59 ?_
  refine z_iadd (e := (J 29 5) + 1) gi_14_60 rfl ?_
  refine z_putI (y := 5) gi_14_61 rfl gk_29 ?_
  refine z_aload0 gi_14_64 ?_
  refine z_aload0 gi_14_65 ?_
  refine z_getI (v := (J 29 5) + 1) gi_14_66 gk_29 (zU_e) ?_
  refine z_putI (y := 6) gi_14_69 rfl gk_29 ?_
  refine z_vret gi_14_72 gr_14 ?_
  show zW _ _ _ _ _ _ _ _ _ _
  refine z_aload0 gi_104_51 ?_
  refine z_getR (r := 8) gi_104_52 gk_0 (hR _ rm_0_1) ?_
  refine z_iload1 gi_104_55 ?_
  refine z_iload2 gi_104_56 ?_
  refine z_iload3 gi_104_57 ?_
  refine z_callVx (As := [_, _, _]) gi_104_58 rfl gk_8 (Nat.le_of_ble_eq_true rfl) (Nat.le_of_ble_eq_true rfl) (tell_g (n := J 8 2) hR rfl yn hp hw (by omega)) ?_
  show zW _ _ _ _ _ _ _ _ _ _
  refine z_iload4 gi_104_61 ?_
  refine z_iret gi_104_63 gr_104 ?_
  refine ⟨_, rfl, ?_⟩
  show zW _ _ _ _ [some (.ref 50), some (zi p), some (zi w), some (zi v)] _ _ _ _ _
  refine z_aload0 gi_162_0 ?_
  refine z_iload1 gi_162_1 ?_
  refine z_iload2 gi_162_2 ?_
  refine z_callVP (As := [_, _]) (v := 1) gi_162_3 rfl gk_50 (Nat.le_of_ble_eq_true rfl) (Nat.le_of_ble_eq_true rfl) (isOne_1 hRr y2.symm yn hp hw hV) ?_
  refine z_if_eqF gi_162_6 zr_1 (by decide) ?_
  refine z_iload2 gi_162_9 ?_
  refine z_iload3 gi_162_10 ?_
  refine z_callSP (As := [_, _]) (v := 1) gi_162_11 rfl (Nat.le_of_ble_eq_true rfl) (Nat.le_of_ble_eq_true rfl) (mayBe_1 hv hw (by omega) hf) ?_
  refine z_if_eqF gi_162_14 zr_1 (by decide) ?_
  refine z_aload0 gi_162_17 ?_
  refine z_iload2 gi_162_18 ?_
  refine z_iload1 gi_162_19 ?_
  refine z_iload3 gi_162_20 ?_
  refine z_callVi (As := [_, _, _]) (le := [some _, some _, some _, some _, none, none]) gi_162_21 rfl gk_50 (Nat.le_of_ble_eq_true rfl) (Nat.le_of_ble_eq_true rfl) rfl ?_
  refine z_aload0 gi_157_0 ?_
  refine z_iload1 gi_157_1 ?_
  refine z_iload2 gi_157_2 ?_
  refine z_callVP (As := [_, _]) (v := (cN J) p w) gi_157_3 rfl gk_50 (Nat.le_of_ble_eq_true rfl) (Nat.le_of_ble_eq_true rfl) (valueAt_s hRr ((rN_z (zK_x (a := 9) (x := 40 + w) (v := v) (zK_x (a := 29) (x := 6) (v := (J 29 5) + 1) (zK_x (a := 29) (x := 5) (v := (J 29 5) + 1) (zK_x (a := 33) (x := J 29 5) (v := v) (zK_x (a := 32) (x := J 29 5) (v := (cN J) p w) (zK_x (a := 31) (x := J 29 5) (v := w) (zK_x (a := 30) (x := J 29 5) (v := p) (zK_r (k := kHi) (A := J)) rfl) rfl) rfl) rfl) rfl) rfl) rfl)).trans y1.symm) y2.symm y3 hp hw hV) ?_
  refine z_istore (ls1 := [some (.ref 50), some (zi w), some (zi p), some (zi v), some (zi ((cN J) p w)), none]) gi_157_6 rfl ?_
  refine z_iload4 gi_157_8 ?_
  refine z_iload3 gi_157_10 ?_
  refine z_icmp_neT gi_157_11 (by omega) (by omega) (by omega) ?_
  refine z_aload0 gi_157_17 ?_
  refine z_pushJ gp_157_18 ?_
  refine z_putI (y := 9) gi_157_19 rfl gk_50 ?_
  refine z_aload0 gi_157_22 ?_
  refine z_getI (v := J 29 5) gi_157_23 gk_50 ((zU_x (by decide)).trans ((zU_n (by decide)).trans ((zU_n (by decide)).trans ((zU_n (by decide)).trans ((zU_n (by decide)).trans ((zU_n (by decide)).trans ((zU_n (by decide)).trans ((zU_n (by decide)).trans (c1.symm))))))))) ?_
  refine z_pushJ gp_157_26 ?_
  refine z_icmp_neT gi_157_28 (by omega) zr_40 (by omega) ?_
  refine z_aload0 gi_157_121 ?_
  refine z_getR (r := 57) gi_157_122 gk_50 (hRr _ rm_50_10 (by decide)) ?_
  refine z_aload0 gi_157_125 ?_
  refine z_getI (v := J 29 5) gi_157_126 gk_50 ((zU_x (by decide)).trans ((zU_n (by decide)).trans ((zU_n (by decide)).trans ((zU_n (by decide)).trans ((zU_n (by decide)).trans ((zU_n (by decide)).trans ((zU_n (by decide)).trans ((zU_n (by decide)).trans (c1.symm))))))))) ?_
  refine z_iload1 gi_157_129 ?_
  refine z_iast (e := w) gi_157_130 gk_57 (by decide) (by omega) rfl ?_
  refine z_aload0 gi_157_131 ?_
  refine z_getR (r := 58) gi_157_132 gk_50 (hRr _ rm_50_11 (by decide)) ?_
  refine z_aload0 gi_157_135 ?_
  refine z_getI (v := J 29 5) gi_157_136 gk_50 ((zU_n (by decide)).trans ((zU_x (by decide)).trans ((zU_n (by decide)).trans ((zU_n (by decide)).trans ((zU_n (by decide)).trans ((zU_n (by decide)).trans ((zU_n (by decide)).trans ((zU_n (by decide)).trans ((zU_n (by decide)).trans (c1.symm)))))))))) ?_
  refine z_iload2 gi_157_139 ?_
  refine z_iast (e := p) gi_157_140 gk_58 (by decide) (by omega) rfl ?_
  refine z_aload0 gi_157_141 ?_
  refine z_getR (r := 59) gi_157_142 gk_50 (hRr _ rm_50_12 (by decide)) ?_
  refine z_aload0 gi_157_145 ?_
  refine z_getI (v := J 29 5) gi_157_146 gk_50 ((zU_n (by decide)).trans ((zU_n (by decide)).trans ((zU_x (by decide)).trans ((zU_n (by decide)).trans ((zU_n (by decide)).trans ((zU_n (by decide)).trans ((zU_n (by decide)).trans ((zU_n (by decide)).trans ((zU_n (by decide)).trans ((zU_n (by decide)).trans (c1.symm))))))))))) ?_
  refine z_iload4 gi_157_149 ?_
  refine z_iast (e := (cN J) p w) gi_157_151 gk_59 (by decide) (by omega) rfl ?_
  refine z_aload0 gi_157_152 ?_
  refine z_getR (r := 60) gi_157_153 gk_50 (hRr _ rm_50_13 (by decide)) ?_
  refine z_aload0 gi_157_156 ?_
  refine z_getI (v := J 29 5) gi_157_157 gk_50 ((zU_n (by decide)).trans ((zU_n (by decide)).trans ((zU_n (by decide)).trans ((zU_x (by decide)).trans ((zU_n (by decide)).trans ((zU_n (by decide)).trans ((zU_n (by decide)).trans ((zU_n (by decide)).trans ((zU_n (by decide)).trans ((zU_n (by decide)).trans ((zU_n (by decide)).trans (c1.symm)))))))))))) ?_
  refine z_iload3 gi_157_160 ?_
  refine z_iast (e := v) gi_157_161 gk_60 (by decide) (by omega) rfl ?_
  refine z_aload0 gi_157_162 ?_
  refine z_dup gi_157_163 rfl ?_
  refine z_getI (v := J 29 5) gi_157_164 gk_50 ((zU_n (by decide)).trans ((zU_n (by decide)).trans ((zU_n (by decide)).trans ((zU_n (by decide)).trans ((zU_x (by decide)).trans ((zU_n (by decide)).trans ((zU_n (by decide)).trans ((zU_n (by decide)).trans ((zU_n (by decide)).trans ((zU_n (by decide)).trans ((zU_n (by decide)).trans ((zU_n (by decide)).trans (c1.symm))))))))))))) ?_
  refine z_pushJ gp_157_167 ?_
  refine z_iadd (e := (J 29 5) + 1) gi_157_168 rfl ?_
  refine z_putI (y := 8) gi_157_169 rfl gk_50 ?_
  refine z_aload0 gi_157_172 ?_
  refine z_iload1 gi_157_173 ?_
  refine z_iload2 gi_157_174 ?_
  refine z_iload3 gi_157_175 ?_
  refine z_callVx (As := [_, _, _]) gi_157_176 rfl gk_50 (Nat.le_of_ble_eq_true rfl) (Nat.le_of_ble_eq_true rfl) (lays_g (n := J 8 2) hRr y2.symm yn hp hw (by omega)) ?_
  show zW _ _ _ _ _ _ _ _ _ _
  refine z_iload4 gi_157_179 ?_
  refine z_iret gi_157_181 gr_157 ?_
  show zW _ _ _ _ _ _ _ _ _ _
  refine z_goto gi_162_24 ?_
  refine z_iret gi_162_28 gr_162 ?_
  refine ⟨?_, ?_⟩
  · first | rfl | exact congrArg (fun v => some (zi v)) (by omega) | (exfalso; omega)
  · have hs := (zK_u (a := 56) (x := w - 5) (v := v) (zK_x (a := 50) (x := 8) (v := (J 29 5) + 1) (zK_x (a := 60) (x := J 29 5) (v := v) (zK_x (a := 59) (x := J 29 5) (v := (cN J) p w) (zK_x (a := 58) (x := J 29 5) (v := p) (zK_x (a := 57) (x := J 29 5) (v := w) (zK_x (a := 50) (x := 9) (v := 0) (zK_u (a := 9) (x := 40 + w) (v := v) (zK_x (a := 29) (x := 6) (v := (J 29 5) + 1) (zK_x (a := 29) (x := 5) (v := (J 29 5) + 1) (zK_x (a := 33) (x := J 29 5) (v := v) (zK_x (a := 32) (x := J 29 5) (v := (cN J) p w) (zK_x (a := 31) (x := J 29 5) (v := w) (zK_x (a := 30) (x := J 29 5) (v := p) (zK_r (k := (kL [30, 31, 32, 33, 57, 58, 59, 60] [(29, 5), (29, 6), (50, 9), (50, 8)])) (A := J)) rfl) rfl) rfl) rfl) rfl) rfl)) rfl) rfl) rfl) rfl) rfl) rfl))
    have hY2 := RelY_k hs (by repeat' constructor) (fun p => by repeat' constructor) (RelY_g (w := w) hY (by omega) hf2 (by omega) (by omega))
    have hok : zOkc (J 8 2) p w ((cN J) p w) v := ⟨hV, nf, hf2⟩
    have hk := (zK_x (a := 56) (x := w - 5) (v := v) (zK_x (a := 50) (x := 8) (v := (J 29 5) + 1) (zK_x (a := 60) (x := J 29 5) (v := v) (zK_x (a := 59) (x := J 29 5) (v := (cN J) p w) (zK_x (a := 58) (x := J 29 5) (v := p) (zK_x (a := 57) (x := J 29 5) (v := w) (zK_x (a := 50) (x := 9) (v := 0) (zK_x (a := 9) (x := 40 + w) (v := v) (zK_x (a := 29) (x := 6) (v := (J 29 5) + 1) (zK_x (a := 29) (x := 5) (v := (J 29 5) + 1) (zK_x (a := 33) (x := J 29 5) (v := v) (zK_x (a := 32) (x := J 29 5) (v := (cN J) p w) (zK_x (a := 31) (x := J 29 5) (v := w) (zK_x (a := 30) (x := J 29 5) (v := p) (zK_r (k := (kL [30, 31, 32, 33, 9, 57, 58, 59, 60, 56] [(29, 5), (29, 6), (50, 9), (50, 8)])) (A := J)) rfl) rfl) rfl) rfl) rfl) rfl) rfl) rfl) rfl) rfl) rfl) rfl) rfl) rfl)
    exact ⟨hR, hG, hY2, RelD_k hk (by repeat' constructor) (fun p => by repeat' constructor) hD, RelP_k hk (by repeat' constructor) (fun p => by repeat' constructor) hP, (RelC_mk (K := J) (d := J 29 5) (o := 0) rfl rfl rfl rfl (by omega) (by omega) rfl rfl hC (by omega) (fun i i1 i2 => ⟨⟨by rw [Int.add_zero i]; exact (zU_n (by decide)).trans ((zU_n (by decide)).trans ((zU_n (by decide)).trans ((zU_n (by decide)).trans ((zU_n (by decide)).trans ((zU_n (by decide)).trans ((zU_n (by decide)).trans ((zU_n (by decide)).trans ((zU_n (by decide)).trans ((zU_n (by decide)).trans ((zU_n (by decide)).trans ((zU_n (by decide)).trans ((zU_n (by decide)).trans ((zU_x (by omega)).trans (rfl)))))))))))))), by rw [Int.add_zero i]; exact (zU_n (by decide)).trans ((zU_n (by decide)).trans ((zU_n (by decide)).trans ((zU_n (by decide)).trans ((zU_n (by decide)).trans ((zU_n (by decide)).trans ((zU_n (by decide)).trans ((zU_n (by decide)).trans ((zU_n (by decide)).trans ((zU_n (by decide)).trans ((zU_n (by decide)).trans ((zU_n (by decide)).trans ((zU_x (by omega)).trans ((zU_n (by decide)).trans (rfl)))))))))))))), by rw [Int.add_zero i]; exact (zU_n (by decide)).trans ((zU_n (by decide)).trans ((zU_n (by decide)).trans ((zU_n (by decide)).trans ((zU_n (by decide)).trans ((zU_n (by decide)).trans ((zU_n (by decide)).trans ((zU_n (by decide)).trans ((zU_n (by decide)).trans ((zU_n (by decide)).trans ((zU_n (by decide)).trans ((zU_x (by omega)).trans ((zU_n (by decide)).trans ((zU_n (by decide)).trans (rfl)))))))))))))), by rw [Int.add_zero i]; exact (zU_n (by decide)).trans ((zU_n (by decide)).trans ((zU_n (by decide)).trans ((zU_n (by decide)).trans ((zU_n (by decide)).trans ((zU_n (by decide)).trans ((zU_n (by decide)).trans ((zU_n (by decide)).trans ((zU_n (by decide)).trans ((zU_n (by decide)).trans ((zU_x (by omega)).trans ((zU_n (by decide)).trans ((zU_n (by decide)).trans ((zU_n (by decide)).trans (rfl))))))))))))))⟩, ⟨by rw [Int.add_zero i]; exact (zU_n (by decide)).trans ((zU_n (by decide)).trans ((zU_n (by decide)).trans ((zU_n (by decide)).trans ((zU_x (by omega)).trans ((zU_n (by decide)).trans ((zU_n (by decide)).trans ((zU_n (by decide)).trans ((zU_n (by decide)).trans ((zU_n (by decide)).trans ((zU_n (by decide)).trans ((zU_n (by decide)).trans ((zU_n (by decide)).trans ((zU_n (by decide)).trans (rfl)))))))))))))), by rw [Int.add_zero i]; exact (zU_n (by decide)).trans ((zU_n (by decide)).trans ((zU_n (by decide)).trans ((zU_n (by decide)).trans ((zU_n (by decide)).trans ((zU_x (by omega)).trans ((zU_n (by decide)).trans ((zU_n (by decide)).trans ((zU_n (by decide)).trans ((zU_n (by decide)).trans ((zU_n (by decide)).trans ((zU_n (by decide)).trans ((zU_n (by decide)).trans ((zU_n (by decide)).trans (rfl)))))))))))))), by rw [Int.add_zero i]; exact (zU_n (by decide)).trans ((zU_n (by decide)).trans ((zU_n (by decide)).trans ((zU_x (by omega)).trans ((zU_n (by decide)).trans ((zU_n (by decide)).trans ((zU_n (by decide)).trans ((zU_n (by decide)).trans ((zU_n (by decide)).trans ((zU_n (by decide)).trans ((zU_n (by decide)).trans ((zU_n (by decide)).trans ((zU_n (by decide)).trans ((zU_n (by decide)).trans (rfl)))))))))))))), by rw [Int.add_zero i]; exact (zU_n (by decide)).trans ((zU_n (by decide)).trans ((zU_x (by omega)).trans ((zU_n (by decide)).trans ((zU_n (by decide)).trans ((zU_n (by decide)).trans ((zU_n (by decide)).trans ((zU_n (by decide)).trans ((zU_n (by decide)).trans ((zU_n (by decide)).trans ((zU_n (by decide)).trans ((zU_n (by decide)).trans ((zU_n (by decide)).trans ((zU_n (by decide)).trans (rfl))))))))))))))⟩⟩) ((zU_n (by decide)).trans ((zU_n (by decide)).trans ((zU_n (by decide)).trans ((zU_n (by decide)).trans ((zU_n (by decide)).trans ((zU_n (by decide)).trans ((zU_n (by decide)).trans ((zU_n (by decide)).trans ((zU_n (by decide)).trans ((zU_n (by decide)).trans ((zU_n (by decide)).trans ((zU_n (by decide)).trans ((zU_n (by decide)).trans (zU_e)))))))))))))) ((zU_n (by decide)).trans ((zU_n (by decide)).trans ((zU_n (by decide)).trans ((zU_n (by decide)).trans ((zU_n (by decide)).trans ((zU_n (by decide)).trans ((zU_n (by decide)).trans ((zU_n (by decide)).trans ((zU_n (by decide)).trans ((zU_n (by decide)).trans ((zU_n (by decide)).trans ((zU_n (by decide)).trans (zU_e))))))))))))) ((zU_n (by decide)).trans ((zU_n (by decide)).trans ((zU_n (by decide)).trans ((zU_n (by decide)).trans ((zU_n (by decide)).trans ((zU_n (by decide)).trans ((zU_n (by decide)).trans ((zU_n (by decide)).trans ((zU_n (by decide)).trans ((zU_n (by decide)).trans ((zU_n (by decide)).trans (zU_e)))))))))))) ((zU_n (by decide)).trans ((zU_n (by decide)).trans ((zU_n (by decide)).trans ((zU_n (by decide)).trans ((zU_n (by decide)).trans ((zU_n (by decide)).trans ((zU_n (by decide)).trans ((zU_n (by decide)).trans ((zU_n (by decide)).trans ((zU_n (by decide)).trans (zU_e))))))))))) ((zU_n (by decide)).trans ((zU_n (by decide)).trans ((zU_n (by decide)).trans ((zU_n (by decide)).trans (zU_e))))) ((zU_n (by decide)).trans ((zU_n (by decide)).trans ((zU_n (by decide)).trans ((zU_n (by decide)).trans ((zU_n (by decide)).trans (zU_e)))))) ((zU_n (by decide)).trans ((zU_n (by decide)).trans ((zU_n (by decide)).trans (zU_e)))) ((zU_n (by decide)).trans ((zU_n (by decide)).trans (zU_e))) hok), RelA_k hk (by repeat' constructor) (fun p => by repeat' constructor) hAc, RelS_k hk (zK_r (k := kM)) (fun x j a b => ⟨kL_38 (by decide) (by decide) x j a b, kM_38 x j a b⟩) (fun p => ⟨rfl, rfl, rfl⟩) rfl hS, RelT_k hk (by repeat' constructor) (fun p => by repeat' constructor) hTp, RelX_k hk (by repeat' constructor) (fun p => by repeat' constructor) hX, RelW_k hk ⟨rfl, rfl⟩ trivial hW⟩
theorem st_mend_p1 {X : Nat × (Nat → Int32)} {d : Nat} {J M : zA} {R : zR} {p v : Int} (hr : Rel X J M R) (hp : -2147483648 ≤ p ∧ p < 2147483648) (hv : -2147483648 ≤ v ∧ v < 2147483648) (hV : zV (J 8 2) p (1)) (hf : zT 2 (1) ≤ v ∧ v ≤ zT 3 (1)) (he : ¬ (cN J) p (1) = v) (h40 : J 29 5 < 40) : zW X (d + 20) 104 0 (gEn 104 [(.ref 0), (zi p), (zi 1), (zi v)]) [] J M R (stP X (d + 20) 162 [(zi p), (zi 1), (zi v)]) := by
  have hr0 := hr
  obtain ⟨hR, hG, hY, hD, hP, hC, hAc, hS, hTp, hX, hW⟩ := hr0
  have hRr : zRoR R := zRoR_of hR
  have hY0 := hY
  obtain ⟨y1, y2, y3⟩ := hY0
  have yn := zNn y3
  have hC0 := hC
  obtain ⟨c1, c2, c3, c4, c5, c6⟩ := hC0
  have nr := zN_r y3 hV
  have nf := zN_fit y3 hV
  have hf2 : zFit (1) v := hf
  show zW _ _ _ _ [some (.ref 0), some (zi p), some (zi 1), some (zi v), none] _ _ _ _ _
  refine z_aload0 gi_104_0 ?_
  refine z_getR (r := 8) gi_104_1 gk_0 (hR _ rm_0_1) ?_
  refine z_iload1 gi_104_4 ?_
  refine z_iload2 gi_104_5 ?_
  refine z_callVP (As := [_, _]) (v := 1) gi_104_6 rfl gk_8 (Nat.le_of_ble_eq_true rfl) (Nat.le_of_ble_eq_true rfl) (isNumber_1 hR rfl yn hp (by decide) hV) ?_
  refine z_if_eqF gi_104_9 zr_1 (by decide) ?_
  refine z_iload2 gi_104_12 ?_
  refine z_iload3 gi_104_13 ?_
  refine z_callSP (As := [_, _]) (v := 1) gi_104_14 rfl (Nat.le_of_ble_eq_true rfl) (Nat.le_of_ble_eq_true rfl) (isFit_1 hv (by decide) (by omega) hf) ?_
  refine z_if_neT gi_104_17 zr_1 (by decide) ?_
  refine z_aload0 gi_104_22 ?_
  refine z_getR (r := 8) gi_104_23 gk_0 (hR _ rm_0_1) ?_
  refine z_iload1 gi_104_26 ?_
  refine z_iload2 gi_104_27 ?_
  refine z_callVP (As := [_, _]) (v := (cN J) p (1)) gi_104_28 rfl gk_8 (Nat.le_of_ble_eq_true rfl) (Nat.le_of_ble_eq_true rfl) (told_k hR zK_r rfl rfl y3 hp (by decide)) ?_
  refine z_istore (ls1 := [some (.ref 0), some (zi p), some (zi 1), some (zi v), some (zi ((cN J) p (1)))]) gi_104_31 rfl ?_
  refine z_iload4 gi_104_33 ?_
  refine z_iload3 gi_104_35 ?_
  refine z_icmp_eqF gi_104_36 (by omega) (by omega) (by omega) ?_
  refine z_aload0 gi_104_39 ?_
  refine z_getR (r := 29) gi_104_40 gk_0 (hR _ rm_0_9) ?_
  refine z_iload1 gi_104_43 ?_
  refine z_iload2 gi_104_44 ?_
  refine z_iload4 gi_104_45 ?_
  refine z_iload3 gi_104_47 ?_
  refine z_cV4 gi_104_48 gk_29 go_14 (Nat.le_of_ble_eq_true rfl) gc_14_RIIII ?_
  refine z_aload0 gi_14_0 ?_
  refine z_getI (v := J 29 5) gi_14_1 gk_29 (rfl) ?_
  refine z_pushJ gp_14_4 ?_
  refine z_icmp_ltT gi_14_6 (by omega) zr_40 (by omega) ?_
  refine z_aload0 gi_14_13 ?_
  refine z_getR (r := 30) gi_14_14 gk_29 (hR _ rm_29_1) ?_
  refine z_aload0 gi_14_17 ?_
  refine z_getI (v := J 29 5) gi_14_18 gk_29 (rfl) ?_
  refine z_iload1 gi_14_21 ?_
  refine z_iast (e := p) gi_14_22 gk_30 (by decide) (by omega) rfl ?_
  refine z_aload0 gi_14_23 ?_
  refine z_getR (r := 31) gi_14_24 gk_29 (hR _ rm_29_2) ?_
  refine z_aload0 gi_14_27 ?_
  refine z_getI (v := J 29 5) gi_14_28 gk_29 ((zU_n (by decide)).trans (rfl)) ?_
  refine z_iload2 gi_14_31 ?_
  refine z_iast (e := 1) gi_14_32 gk_31 (by decide) (by omega) rfl ?_
  refine z_aload0 gi_14_33 ?_
  refine z_getR (r := 32) gi_14_34 gk_29 (hR _ rm_29_3) ?_
  refine z_aload0 gi_14_37 ?_
  refine z_getI (v := J 29 5) gi_14_38 gk_29 ((zU_n (by decide)).trans ((zU_n (by decide)).trans (rfl))) ?_
  refine z_iload3 gi_14_41 ?_
  refine z_iast (e := (cN J) p (1)) gi_14_42 gk_32 (by decide) (by omega) rfl ?_
  refine z_aload0 gi_14_43 ?_
  refine z_getR (r := 33) gi_14_44 gk_29 (hR _ rm_29_4) ?_
  refine z_aload0 gi_14_47 ?_
  refine z_getI (v := J 29 5) gi_14_48 gk_29 ((zU_n (by decide)).trans ((zU_n (by decide)).trans ((zU_n (by decide)).trans (rfl)))) ?_
  refine z_iload4 gi_14_51 ?_
  refine z_iast (e := v) gi_14_53 gk_33 (by decide) (by omega) rfl ?_
  refine z_aload0 gi_14_54 ?_
  refine z_dup gi_14_55 rfl ?_
  refine z_getI (v := J 29 5) gi_14_56 gk_29 ((zU_n (by decide)).trans ((zU_n (by decide)).trans ((zU_n (by decide)).trans ((zU_n (by decide)).trans (rfl))))) ?_
  refine z_pushJ gp_14_59 ?_
  refine z_iadd (e := (J 29 5) + 1) gi_14_60 rfl ?_
  refine z_putI (y := 5) gi_14_61 rfl gk_29 ?_
  refine z_aload0 gi_14_64 ?_
  refine z_aload0 gi_14_65 ?_
  refine z_getI (v := (J 29 5) + 1) gi_14_66 gk_29 (zU_e) ?_
  refine z_putI (y := 6) gi_14_69 rfl gk_29 ?_
  refine z_vret gi_14_72 gr_14 ?_
  show zW _ _ _ _ _ _ _ _ _ _
  refine z_aload0 gi_104_51 ?_
  refine z_getR (r := 8) gi_104_52 gk_0 (hR _ rm_0_1) ?_
  refine z_iload1 gi_104_55 ?_
  refine z_iload2 gi_104_56 ?_
  refine z_iload3 gi_104_57 ?_
  refine z_callVx (As := [_, _, _]) gi_104_58 rfl gk_8 (Nat.le_of_ble_eq_true rfl) (Nat.le_of_ble_eq_true rfl) (tell_p (n := J 8 2) hR rfl yn hp (by decide) (by omega)) ?_
  show zW _ _ _ _ _ _ _ _ _ _
  refine z_iload4 gi_104_61 ?_
  refine z_iret gi_104_63 gr_104 ?_
  refine ⟨_, rfl, ?_⟩
  show zW _ _ _ _ [some (.ref 50), some (zi p), some (zi 1), some (zi v)] _ _ _ _ _
  refine z_aload0 gi_162_0 ?_
  refine z_iload1 gi_162_1 ?_
  refine z_iload2 gi_162_2 ?_
  refine z_callVP (As := [_, _]) (v := 1) gi_162_3 rfl gk_50 (Nat.le_of_ble_eq_true rfl) (Nat.le_of_ble_eq_true rfl) (isOne_1 hRr y2.symm yn hp (by decide) hV) ?_
  refine z_if_eqF gi_162_6 zr_1 (by decide) ?_
  refine z_iload2 gi_162_9 ?_
  refine z_iload3 gi_162_10 ?_
  refine z_callSP (As := [_, _]) (v := 1) gi_162_11 rfl (Nat.le_of_ble_eq_true rfl) (Nat.le_of_ble_eq_true rfl) (mayBe_1 hv (by decide) (by omega) hf) ?_
  refine z_if_eqF gi_162_14 zr_1 (by decide) ?_
  refine z_aload0 gi_162_17 ?_
  refine z_iload2 gi_162_18 ?_
  refine z_iload1 gi_162_19 ?_
  refine z_iload3 gi_162_20 ?_
  refine z_callVi (As := [_, _, _]) (le := [some _, some _, some _, some _, none, none]) gi_162_21 rfl gk_50 (Nat.le_of_ble_eq_true rfl) (Nat.le_of_ble_eq_true rfl) rfl ?_
  refine z_aload0 gi_157_0 ?_
  refine z_iload1 gi_157_1 ?_
  refine z_iload2 gi_157_2 ?_
  refine z_callVP (As := [_, _]) (v := (cN J) p (1)) gi_157_3 rfl gk_50 (Nat.le_of_ble_eq_true rfl) (Nat.le_of_ble_eq_true rfl) (valueAt_s hRr ((rN_z (zK_x (a := 9) (x := p * 5 + 1) (v := v) (zK_x (a := 29) (x := 6) (v := (J 29 5) + 1) (zK_x (a := 29) (x := 5) (v := (J 29 5) + 1) (zK_x (a := 33) (x := J 29 5) (v := v) (zK_x (a := 32) (x := J 29 5) (v := (cN J) p (1)) (zK_x (a := 31) (x := J 29 5) (v := 1) (zK_x (a := 30) (x := J 29 5) (v := p) (zK_r (k := kHi) (A := J)) rfl) rfl) rfl) rfl) rfl) rfl) rfl)).trans y1.symm) y2.symm y3 hp (by decide) hV) ?_
  refine z_istore (ls1 := [some (.ref 50), some (zi 1), some (zi p), some (zi v), some (zi ((cN J) p (1))), none]) gi_157_6 rfl ?_
  refine z_iload4 gi_157_8 ?_
  refine z_iload3 gi_157_10 ?_
  refine z_icmp_neT gi_157_11 (by omega) (by omega) (by omega) ?_
  refine z_aload0 gi_157_17 ?_
  refine z_pushJ gp_157_18 ?_
  refine z_putI (y := 9) gi_157_19 rfl gk_50 ?_
  refine z_aload0 gi_157_22 ?_
  refine z_getI (v := J 29 5) gi_157_23 gk_50 ((zU_x (by decide)).trans ((zU_n (by decide)).trans ((zU_n (by decide)).trans ((zU_n (by decide)).trans ((zU_n (by decide)).trans ((zU_n (by decide)).trans ((zU_n (by decide)).trans ((zU_n (by decide)).trans (c1.symm))))))))) ?_
  refine z_pushJ gp_157_26 ?_
  refine z_icmp_neT gi_157_28 (by omega) zr_40 (by omega) ?_
  refine z_aload0 gi_157_121 ?_
  refine z_getR (r := 57) gi_157_122 gk_50 (hRr _ rm_50_10 (by decide)) ?_
  refine z_aload0 gi_157_125 ?_
  refine z_getI (v := J 29 5) gi_157_126 gk_50 ((zU_x (by decide)).trans ((zU_n (by decide)).trans ((zU_n (by decide)).trans ((zU_n (by decide)).trans ((zU_n (by decide)).trans ((zU_n (by decide)).trans ((zU_n (by decide)).trans ((zU_n (by decide)).trans (c1.symm))))))))) ?_
  refine z_iload1 gi_157_129 ?_
  refine z_iast (e := 1) gi_157_130 gk_57 (by decide) (by omega) rfl ?_
  refine z_aload0 gi_157_131 ?_
  refine z_getR (r := 58) gi_157_132 gk_50 (hRr _ rm_50_11 (by decide)) ?_
  refine z_aload0 gi_157_135 ?_
  refine z_getI (v := J 29 5) gi_157_136 gk_50 ((zU_n (by decide)).trans ((zU_x (by decide)).trans ((zU_n (by decide)).trans ((zU_n (by decide)).trans ((zU_n (by decide)).trans ((zU_n (by decide)).trans ((zU_n (by decide)).trans ((zU_n (by decide)).trans ((zU_n (by decide)).trans (c1.symm)))))))))) ?_
  refine z_iload2 gi_157_139 ?_
  refine z_iast (e := p) gi_157_140 gk_58 (by decide) (by omega) rfl ?_
  refine z_aload0 gi_157_141 ?_
  refine z_getR (r := 59) gi_157_142 gk_50 (hRr _ rm_50_12 (by decide)) ?_
  refine z_aload0 gi_157_145 ?_
  refine z_getI (v := J 29 5) gi_157_146 gk_50 ((zU_n (by decide)).trans ((zU_n (by decide)).trans ((zU_x (by decide)).trans ((zU_n (by decide)).trans ((zU_n (by decide)).trans ((zU_n (by decide)).trans ((zU_n (by decide)).trans ((zU_n (by decide)).trans ((zU_n (by decide)).trans ((zU_n (by decide)).trans (c1.symm))))))))))) ?_
  refine z_iload4 gi_157_149 ?_
  refine z_iast (e := (cN J) p (1)) gi_157_151 gk_59 (by decide) (by omega) rfl ?_
  refine z_aload0 gi_157_152 ?_
  refine z_getR (r := 60) gi_157_153 gk_50 (hRr _ rm_50_13 (by decide)) ?_
  refine z_aload0 gi_157_156 ?_
  refine z_getI (v := J 29 5) gi_157_157 gk_50 ((zU_n (by decide)).trans ((zU_n (by decide)).trans ((zU_n (by decide)).trans ((zU_x (by decide)).trans ((zU_n (by decide)).trans ((zU_n (by decide)).trans ((zU_n (by decide)).trans ((zU_n (by decide)).trans ((zU_n (by decide)).trans ((zU_n (by decide)).trans ((zU_n (by decide)).trans (c1.symm)))))))))))) ?_
  refine z_iload3 gi_157_160 ?_
  refine z_iast (e := v) gi_157_161 gk_60 (by decide) (by omega) rfl ?_
  refine z_aload0 gi_157_162 ?_
  refine z_dup gi_157_163 rfl ?_
  refine z_getI (v := J 29 5) gi_157_164 gk_50 ((zU_n (by decide)).trans ((zU_n (by decide)).trans ((zU_n (by decide)).trans ((zU_n (by decide)).trans ((zU_x (by decide)).trans ((zU_n (by decide)).trans ((zU_n (by decide)).trans ((zU_n (by decide)).trans ((zU_n (by decide)).trans ((zU_n (by decide)).trans ((zU_n (by decide)).trans ((zU_n (by decide)).trans (c1.symm))))))))))))) ?_
  refine z_pushJ gp_157_167 ?_
  refine z_iadd (e := (J 29 5) + 1) gi_157_168 rfl ?_
  refine z_putI (y := 8) gi_157_169 rfl gk_50 ?_
  refine z_aload0 gi_157_172 ?_
  refine z_iload1 gi_157_173 ?_
  refine z_iload2 gi_157_174 ?_
  refine z_iload3 gi_157_175 ?_
  refine z_callVx (As := [_, _, _]) gi_157_176 rfl gk_50 (Nat.le_of_ble_eq_true rfl) (Nat.le_of_ble_eq_true rfl) (lays_p (n := J 8 2) hRr y2.symm yn hp (by decide) (by omega)) ?_
  show zW _ _ _ _ _ _ _ _ _ _
  refine z_iload4 gi_157_179 ?_
  refine z_iret gi_157_181 gr_157 ?_
  show zW _ _ _ _ _ _ _ _ _ _
  refine z_goto gi_162_24 ?_
  refine z_iret gi_162_28 gr_162 ?_
  refine ⟨?_, ?_⟩
  · first | rfl | exact congrArg (fun v => some (zi v)) (by omega) | (exfalso; omega)
  · have hs := (zK_u (a := 52) (x := p) (v := v) (zK_x (a := 50) (x := 8) (v := (J 29 5) + 1) (zK_x (a := 60) (x := J 29 5) (v := v) (zK_x (a := 59) (x := J 29 5) (v := (cN J) p (1)) (zK_x (a := 58) (x := J 29 5) (v := p) (zK_x (a := 57) (x := J 29 5) (v := 1) (zK_x (a := 50) (x := 9) (v := 0) (zK_u (a := 9) (x := p * 5 + 1) (v := v) (zK_x (a := 29) (x := 6) (v := (J 29 5) + 1) (zK_x (a := 29) (x := 5) (v := (J 29 5) + 1) (zK_x (a := 33) (x := J 29 5) (v := v) (zK_x (a := 32) (x := J 29 5) (v := (cN J) p (1)) (zK_x (a := 31) (x := J 29 5) (v := 1) (zK_x (a := 30) (x := J 29 5) (v := p) (zK_r (k := (kL [30, 31, 32, 33, 57, 58, 59, 60] [(29, 5), (29, 6), (50, 9), (50, 8)])) (A := J)) rfl) rfl) rfl) rfl) rfl) rfl)) rfl) rfl) rfl) rfl) rfl) rfl))
    have hY2 := RelY_k hs (by repeat' constructor) (fun p => by repeat' constructor) (RelY_p (p := p) (w := 1) hY (by omega) (by omega) hf2 (by omega) rfl rfl)
    have hok : zOkc (J 8 2) p (1) ((cN J) p (1)) v := ⟨hV, nf, hf2⟩
    have hk := (zK_x (a := 52) (x := p) (v := v) (zK_x (a := 50) (x := 8) (v := (J 29 5) + 1) (zK_x (a := 60) (x := J 29 5) (v := v) (zK_x (a := 59) (x := J 29 5) (v := (cN J) p (1)) (zK_x (a := 58) (x := J 29 5) (v := p) (zK_x (a := 57) (x := J 29 5) (v := 1) (zK_x (a := 50) (x := 9) (v := 0) (zK_x (a := 9) (x := p * 5 + 1) (v := v) (zK_x (a := 29) (x := 6) (v := (J 29 5) + 1) (zK_x (a := 29) (x := 5) (v := (J 29 5) + 1) (zK_x (a := 33) (x := J 29 5) (v := v) (zK_x (a := 32) (x := J 29 5) (v := (cN J) p (1)) (zK_x (a := 31) (x := J 29 5) (v := 1) (zK_x (a := 30) (x := J 29 5) (v := p) (zK_r (k := (kL [30, 31, 32, 33, 9, 57, 58, 59, 60, 52] [(29, 5), (29, 6), (50, 9), (50, 8)])) (A := J)) rfl) rfl) rfl) rfl) rfl) rfl) rfl) rfl) rfl) rfl) rfl) rfl) rfl) rfl)
    exact ⟨hR, hG, hY2, RelD_k hk (by repeat' constructor) (fun p => by repeat' constructor) hD, RelP_k hk (by repeat' constructor) (fun p => by repeat' constructor) hP, (RelC_mk (K := J) (d := J 29 5) (o := 0) rfl rfl rfl rfl (by omega) (by omega) rfl rfl hC (by omega) (fun i i1 i2 => ⟨⟨by rw [Int.add_zero i]; exact (zU_n (by decide)).trans ((zU_n (by decide)).trans ((zU_n (by decide)).trans ((zU_n (by decide)).trans ((zU_n (by decide)).trans ((zU_n (by decide)).trans ((zU_n (by decide)).trans ((zU_n (by decide)).trans ((zU_n (by decide)).trans ((zU_n (by decide)).trans ((zU_n (by decide)).trans ((zU_n (by decide)).trans ((zU_n (by decide)).trans ((zU_x (by omega)).trans (rfl)))))))))))))), by rw [Int.add_zero i]; exact (zU_n (by decide)).trans ((zU_n (by decide)).trans ((zU_n (by decide)).trans ((zU_n (by decide)).trans ((zU_n (by decide)).trans ((zU_n (by decide)).trans ((zU_n (by decide)).trans ((zU_n (by decide)).trans ((zU_n (by decide)).trans ((zU_n (by decide)).trans ((zU_n (by decide)).trans ((zU_n (by decide)).trans ((zU_x (by omega)).trans ((zU_n (by decide)).trans (rfl)))))))))))))), by rw [Int.add_zero i]; exact (zU_n (by decide)).trans ((zU_n (by decide)).trans ((zU_n (by decide)).trans ((zU_n (by decide)).trans ((zU_n (by decide)).trans ((zU_n (by decide)).trans ((zU_n (by decide)).trans ((zU_n (by decide)).trans ((zU_n (by decide)).trans ((zU_n (by decide)).trans ((zU_n (by decide)).trans ((zU_x (by omega)).trans ((zU_n (by decide)).trans ((zU_n (by decide)).trans (rfl)))))))))))))), by rw [Int.add_zero i]; exact (zU_n (by decide)).trans ((zU_n (by decide)).trans ((zU_n (by decide)).trans ((zU_n (by decide)).trans ((zU_n (by decide)).trans ((zU_n (by decide)).trans ((zU_n (by decide)).trans ((zU_n (by decide)).trans ((zU_n (by decide)).trans ((zU_n (by decide)).trans ((zU_x (by omega)).trans ((zU_n (by decide)).trans ((zU_n (by decide)).trans ((zU_n (by decide)).trans (rfl))))))))))))))⟩, ⟨by rw [Int.add_zero i]; exact (zU_n (by decide)).trans ((zU_n (by decide)).trans ((zU_n (by decide)).trans ((zU_n (by decide)).trans ((zU_x (by omega)).trans ((zU_n (by decide)).trans ((zU_n (by decide)).trans ((zU_n (by decide)).trans ((zU_n (by decide)).trans ((zU_n (by decide)).trans ((zU_n (by decide)).trans ((zU_n (by decide)).trans ((zU_n (by decide)).trans ((zU_n (by decide)).trans (rfl)))))))))))))), by rw [Int.add_zero i]; exact (zU_n (by decide)).trans ((zU_n (by decide)).trans ((zU_n (by decide)).trans ((zU_n (by decide)).trans ((zU_n (by decide)).trans ((zU_x (by omega)).trans ((zU_n (by decide)).trans ((zU_n (by decide)).trans ((zU_n (by decide)).trans ((zU_n (by decide)).trans ((zU_n (by decide)).trans ((zU_n (by decide)).trans ((zU_n (by decide)).trans ((zU_n (by decide)).trans (rfl)))))))))))))), by rw [Int.add_zero i]; exact (zU_n (by decide)).trans ((zU_n (by decide)).trans ((zU_n (by decide)).trans ((zU_x (by omega)).trans ((zU_n (by decide)).trans ((zU_n (by decide)).trans ((zU_n (by decide)).trans ((zU_n (by decide)).trans ((zU_n (by decide)).trans ((zU_n (by decide)).trans ((zU_n (by decide)).trans ((zU_n (by decide)).trans ((zU_n (by decide)).trans ((zU_n (by decide)).trans (rfl)))))))))))))), by rw [Int.add_zero i]; exact (zU_n (by decide)).trans ((zU_n (by decide)).trans ((zU_x (by omega)).trans ((zU_n (by decide)).trans ((zU_n (by decide)).trans ((zU_n (by decide)).trans ((zU_n (by decide)).trans ((zU_n (by decide)).trans ((zU_n (by decide)).trans ((zU_n (by decide)).trans ((zU_n (by decide)).trans ((zU_n (by decide)).trans ((zU_n (by decide)).trans ((zU_n (by decide)).trans (rfl))))))))))))))⟩⟩) ((zU_n (by decide)).trans ((zU_n (by decide)).trans ((zU_n (by decide)).trans ((zU_n (by decide)).trans ((zU_n (by decide)).trans ((zU_n (by decide)).trans ((zU_n (by decide)).trans ((zU_n (by decide)).trans ((zU_n (by decide)).trans ((zU_n (by decide)).trans ((zU_n (by decide)).trans ((zU_n (by decide)).trans ((zU_n (by decide)).trans (zU_e)))))))))))))) ((zU_n (by decide)).trans ((zU_n (by decide)).trans ((zU_n (by decide)).trans ((zU_n (by decide)).trans ((zU_n (by decide)).trans ((zU_n (by decide)).trans ((zU_n (by decide)).trans ((zU_n (by decide)).trans ((zU_n (by decide)).trans ((zU_n (by decide)).trans ((zU_n (by decide)).trans ((zU_n (by decide)).trans (zU_e))))))))))))) ((zU_n (by decide)).trans ((zU_n (by decide)).trans ((zU_n (by decide)).trans ((zU_n (by decide)).trans ((zU_n (by decide)).trans ((zU_n (by decide)).trans ((zU_n (by decide)).trans ((zU_n (by decide)).trans ((zU_n (by decide)).trans ((zU_n (by decide)).trans ((zU_n (by decide)).trans (zU_e)))))))))))) ((zU_n (by decide)).trans ((zU_n (by decide)).trans ((zU_n (by decide)).trans ((zU_n (by decide)).trans ((zU_n (by decide)).trans ((zU_n (by decide)).trans ((zU_n (by decide)).trans ((zU_n (by decide)).trans ((zU_n (by decide)).trans ((zU_n (by decide)).trans (zU_e))))))))))) ((zU_n (by decide)).trans ((zU_n (by decide)).trans ((zU_n (by decide)).trans ((zU_n (by decide)).trans (zU_e))))) ((zU_n (by decide)).trans ((zU_n (by decide)).trans ((zU_n (by decide)).trans ((zU_n (by decide)).trans ((zU_n (by decide)).trans (zU_e)))))) ((zU_n (by decide)).trans ((zU_n (by decide)).trans ((zU_n (by decide)).trans (zU_e)))) ((zU_n (by decide)).trans ((zU_n (by decide)).trans (zU_e))) hok), RelA_k hk (by repeat' constructor) (fun p => by repeat' constructor) hAc, RelS_k hk (zK_r (k := kM)) (fun x j a b => ⟨kL_38 (by decide) (by decide) x j a b, kM_38 x j a b⟩) (fun p => ⟨rfl, rfl, rfl⟩) rfl hS, RelT_k hk (by repeat' constructor) (fun p => by repeat' constructor) hTp, RelX_k hk (by repeat' constructor) (fun p => by repeat' constructor) hX, RelW_k hk ⟨rfl, rfl⟩ trivial hW⟩
theorem st_mend_p2 {X : Nat × (Nat → Int32)} {d : Nat} {J M : zA} {R : zR} {p v : Int} (hr : Rel X J M R) (hp : -2147483648 ≤ p ∧ p < 2147483648) (hv : -2147483648 ≤ v ∧ v < 2147483648) (hV : zV (J 8 2) p (2)) (hf : zT 2 (2) ≤ v ∧ v ≤ zT 3 (2)) (he : ¬ (cN J) p (2) = v) (h40 : J 29 5 < 40) : zW X (d + 20) 104 0 (gEn 104 [(.ref 0), (zi p), (zi 2), (zi v)]) [] J M R (stP X (d + 20) 162 [(zi p), (zi 2), (zi v)]) := by
  have hr0 := hr
  obtain ⟨hR, hG, hY, hD, hP, hC, hAc, hS, hTp, hX, hW⟩ := hr0
  have hRr : zRoR R := zRoR_of hR
  have hY0 := hY
  obtain ⟨y1, y2, y3⟩ := hY0
  have yn := zNn y3
  have hC0 := hC
  obtain ⟨c1, c2, c3, c4, c5, c6⟩ := hC0
  have nr := zN_r y3 hV
  have nf := zN_fit y3 hV
  have hf2 : zFit (2) v := hf
  show zW _ _ _ _ [some (.ref 0), some (zi p), some (zi 2), some (zi v), none] _ _ _ _ _
  refine z_aload0 gi_104_0 ?_
  refine z_getR (r := 8) gi_104_1 gk_0 (hR _ rm_0_1) ?_
  refine z_iload1 gi_104_4 ?_
  refine z_iload2 gi_104_5 ?_
  refine z_callVP (As := [_, _]) (v := 1) gi_104_6 rfl gk_8 (Nat.le_of_ble_eq_true rfl) (Nat.le_of_ble_eq_true rfl) (isNumber_1 hR rfl yn hp (by decide) hV) ?_
  refine z_if_eqF gi_104_9 zr_1 (by decide) ?_
  refine z_iload2 gi_104_12 ?_
  refine z_iload3 gi_104_13 ?_
  refine z_callSP (As := [_, _]) (v := 1) gi_104_14 rfl (Nat.le_of_ble_eq_true rfl) (Nat.le_of_ble_eq_true rfl) (isFit_1 hv (by decide) (by omega) hf) ?_
  refine z_if_neT gi_104_17 zr_1 (by decide) ?_
  refine z_aload0 gi_104_22 ?_
  refine z_getR (r := 8) gi_104_23 gk_0 (hR _ rm_0_1) ?_
  refine z_iload1 gi_104_26 ?_
  refine z_iload2 gi_104_27 ?_
  refine z_callVP (As := [_, _]) (v := (cN J) p (2)) gi_104_28 rfl gk_8 (Nat.le_of_ble_eq_true rfl) (Nat.le_of_ble_eq_true rfl) (told_k hR zK_r rfl rfl y3 hp (by decide)) ?_
  refine z_istore (ls1 := [some (.ref 0), some (zi p), some (zi 2), some (zi v), some (zi ((cN J) p (2)))]) gi_104_31 rfl ?_
  refine z_iload4 gi_104_33 ?_
  refine z_iload3 gi_104_35 ?_
  refine z_icmp_eqF gi_104_36 (by omega) (by omega) (by omega) ?_
  refine z_aload0 gi_104_39 ?_
  refine z_getR (r := 29) gi_104_40 gk_0 (hR _ rm_0_9) ?_
  refine z_iload1 gi_104_43 ?_
  refine z_iload2 gi_104_44 ?_
  refine z_iload4 gi_104_45 ?_
  refine z_iload3 gi_104_47 ?_
  refine z_cV4 gi_104_48 gk_29 go_14 (Nat.le_of_ble_eq_true rfl) gc_14_RIIII ?_
  refine z_aload0 gi_14_0 ?_
  refine z_getI (v := J 29 5) gi_14_1 gk_29 (rfl) ?_
  refine z_pushJ gp_14_4 ?_
  refine z_icmp_ltT gi_14_6 (by omega) zr_40 (by omega) ?_
  refine z_aload0 gi_14_13 ?_
  refine z_getR (r := 30) gi_14_14 gk_29 (hR _ rm_29_1) ?_
  refine z_aload0 gi_14_17 ?_
  refine z_getI (v := J 29 5) gi_14_18 gk_29 (rfl) ?_
  refine z_iload1 gi_14_21 ?_
  refine z_iast (e := p) gi_14_22 gk_30 (by decide) (by omega) rfl ?_
  refine z_aload0 gi_14_23 ?_
  refine z_getR (r := 31) gi_14_24 gk_29 (hR _ rm_29_2) ?_
  refine z_aload0 gi_14_27 ?_
  refine z_getI (v := J 29 5) gi_14_28 gk_29 ((zU_n (by decide)).trans (rfl)) ?_
  refine z_iload2 gi_14_31 ?_
  refine z_iast (e := 2) gi_14_32 gk_31 (by decide) (by omega) rfl ?_
  refine z_aload0 gi_14_33 ?_
  refine z_getR (r := 32) gi_14_34 gk_29 (hR _ rm_29_3) ?_
  refine z_aload0 gi_14_37 ?_
  refine z_getI (v := J 29 5) gi_14_38 gk_29 ((zU_n (by decide)).trans ((zU_n (by decide)).trans (rfl))) ?_
  refine z_iload3 gi_14_41 ?_
  refine z_iast (e := (cN J) p (2)) gi_14_42 gk_32 (by decide) (by omega) rfl ?_
  refine z_aload0 gi_14_43 ?_
  refine z_getR (r := 33) gi_14_44 gk_29 (hR _ rm_29_4) ?_
  refine z_aload0 gi_14_47 ?_
  refine z_getI (v := J 29 5) gi_14_48 gk_29 ((zU_n (by decide)).trans ((zU_n (by decide)).trans ((zU_n (by decide)).trans (rfl)))) ?_
  refine z_iload4 gi_14_51 ?_
  refine z_iast (e := v) gi_14_53 gk_33 (by decide) (by omega) rfl ?_
  refine z_aload0 gi_14_54 ?_
  refine z_dup gi_14_55 rfl ?_
  refine z_getI (v := J 29 5) gi_14_56 gk_29 ((zU_n (by decide)).trans ((zU_n (by decide)).trans ((zU_n (by decide)).trans ((zU_n (by decide)).trans (rfl))))) ?_
  refine z_pushJ gp_14_59 ?_
  refine z_iadd (e := (J 29 5) + 1) gi_14_60 rfl ?_
  refine z_putI (y := 5) gi_14_61 rfl gk_29 ?_
  refine z_aload0 gi_14_64 ?_
  refine z_aload0 gi_14_65 ?_
  refine z_getI (v := (J 29 5) + 1) gi_14_66 gk_29 (zU_e) ?_
  refine z_putI (y := 6) gi_14_69 rfl gk_29 ?_
  refine z_vret gi_14_72 gr_14 ?_
  show zW _ _ _ _ _ _ _ _ _ _
  refine z_aload0 gi_104_51 ?_
  refine z_getR (r := 8) gi_104_52 gk_0 (hR _ rm_0_1) ?_
  refine z_iload1 gi_104_55 ?_
  refine z_iload2 gi_104_56 ?_
  refine z_iload3 gi_104_57 ?_
  refine z_callVx (As := [_, _, _]) gi_104_58 rfl gk_8 (Nat.le_of_ble_eq_true rfl) (Nat.le_of_ble_eq_true rfl) (tell_p (n := J 8 2) hR rfl yn hp (by decide) (by omega)) ?_
  show zW _ _ _ _ _ _ _ _ _ _
  refine z_iload4 gi_104_61 ?_
  refine z_iret gi_104_63 gr_104 ?_
  refine ⟨_, rfl, ?_⟩
  show zW _ _ _ _ [some (.ref 50), some (zi p), some (zi 2), some (zi v)] _ _ _ _ _
  refine z_aload0 gi_162_0 ?_
  refine z_iload1 gi_162_1 ?_
  refine z_iload2 gi_162_2 ?_
  refine z_callVP (As := [_, _]) (v := 1) gi_162_3 rfl gk_50 (Nat.le_of_ble_eq_true rfl) (Nat.le_of_ble_eq_true rfl) (isOne_1 hRr y2.symm yn hp (by decide) hV) ?_
  refine z_if_eqF gi_162_6 zr_1 (by decide) ?_
  refine z_iload2 gi_162_9 ?_
  refine z_iload3 gi_162_10 ?_
  refine z_callSP (As := [_, _]) (v := 1) gi_162_11 rfl (Nat.le_of_ble_eq_true rfl) (Nat.le_of_ble_eq_true rfl) (mayBe_1 hv (by decide) (by omega) hf) ?_
  refine z_if_eqF gi_162_14 zr_1 (by decide) ?_
  refine z_aload0 gi_162_17 ?_
  refine z_iload2 gi_162_18 ?_
  refine z_iload1 gi_162_19 ?_
  refine z_iload3 gi_162_20 ?_
  refine z_callVi (As := [_, _, _]) (le := [some _, some _, some _, some _, none, none]) gi_162_21 rfl gk_50 (Nat.le_of_ble_eq_true rfl) (Nat.le_of_ble_eq_true rfl) rfl ?_
  refine z_aload0 gi_157_0 ?_
  refine z_iload1 gi_157_1 ?_
  refine z_iload2 gi_157_2 ?_
  refine z_callVP (As := [_, _]) (v := (cN J) p (2)) gi_157_3 rfl gk_50 (Nat.le_of_ble_eq_true rfl) (Nat.le_of_ble_eq_true rfl) (valueAt_s hRr ((rN_z (zK_x (a := 9) (x := p * 5 + 2) (v := v) (zK_x (a := 29) (x := 6) (v := (J 29 5) + 1) (zK_x (a := 29) (x := 5) (v := (J 29 5) + 1) (zK_x (a := 33) (x := J 29 5) (v := v) (zK_x (a := 32) (x := J 29 5) (v := (cN J) p (2)) (zK_x (a := 31) (x := J 29 5) (v := 2) (zK_x (a := 30) (x := J 29 5) (v := p) (zK_r (k := kHi) (A := J)) rfl) rfl) rfl) rfl) rfl) rfl) rfl)).trans y1.symm) y2.symm y3 hp (by decide) hV) ?_
  refine z_istore (ls1 := [some (.ref 50), some (zi 2), some (zi p), some (zi v), some (zi ((cN J) p (2))), none]) gi_157_6 rfl ?_
  refine z_iload4 gi_157_8 ?_
  refine z_iload3 gi_157_10 ?_
  refine z_icmp_neT gi_157_11 (by omega) (by omega) (by omega) ?_
  refine z_aload0 gi_157_17 ?_
  refine z_pushJ gp_157_18 ?_
  refine z_putI (y := 9) gi_157_19 rfl gk_50 ?_
  refine z_aload0 gi_157_22 ?_
  refine z_getI (v := J 29 5) gi_157_23 gk_50 ((zU_x (by decide)).trans ((zU_n (by decide)).trans ((zU_n (by decide)).trans ((zU_n (by decide)).trans ((zU_n (by decide)).trans ((zU_n (by decide)).trans ((zU_n (by decide)).trans ((zU_n (by decide)).trans (c1.symm))))))))) ?_
  refine z_pushJ gp_157_26 ?_
  refine z_icmp_neT gi_157_28 (by omega) zr_40 (by omega) ?_
  refine z_aload0 gi_157_121 ?_
  refine z_getR (r := 57) gi_157_122 gk_50 (hRr _ rm_50_10 (by decide)) ?_
  refine z_aload0 gi_157_125 ?_
  refine z_getI (v := J 29 5) gi_157_126 gk_50 ((zU_x (by decide)).trans ((zU_n (by decide)).trans ((zU_n (by decide)).trans ((zU_n (by decide)).trans ((zU_n (by decide)).trans ((zU_n (by decide)).trans ((zU_n (by decide)).trans ((zU_n (by decide)).trans (c1.symm))))))))) ?_
  refine z_iload1 gi_157_129 ?_
  refine z_iast (e := 2) gi_157_130 gk_57 (by decide) (by omega) rfl ?_
  refine z_aload0 gi_157_131 ?_
  refine z_getR (r := 58) gi_157_132 gk_50 (hRr _ rm_50_11 (by decide)) ?_
  refine z_aload0 gi_157_135 ?_
  refine z_getI (v := J 29 5) gi_157_136 gk_50 ((zU_n (by decide)).trans ((zU_x (by decide)).trans ((zU_n (by decide)).trans ((zU_n (by decide)).trans ((zU_n (by decide)).trans ((zU_n (by decide)).trans ((zU_n (by decide)).trans ((zU_n (by decide)).trans ((zU_n (by decide)).trans (c1.symm)))))))))) ?_
  refine z_iload2 gi_157_139 ?_
  refine z_iast (e := p) gi_157_140 gk_58 (by decide) (by omega) rfl ?_
  refine z_aload0 gi_157_141 ?_
  refine z_getR (r := 59) gi_157_142 gk_50 (hRr _ rm_50_12 (by decide)) ?_
  refine z_aload0 gi_157_145 ?_
  refine z_getI (v := J 29 5) gi_157_146 gk_50 ((zU_n (by decide)).trans ((zU_n (by decide)).trans ((zU_x (by decide)).trans ((zU_n (by decide)).trans ((zU_n (by decide)).trans ((zU_n (by decide)).trans ((zU_n (by decide)).trans ((zU_n (by decide)).trans ((zU_n (by decide)).trans ((zU_n (by decide)).trans (c1.symm))))))))))) ?_
  refine z_iload4 gi_157_149 ?_
  refine z_iast (e := (cN J) p (2)) gi_157_151 gk_59 (by decide) (by omega) rfl ?_
  refine z_aload0 gi_157_152 ?_
  refine z_getR (r := 60) gi_157_153 gk_50 (hRr _ rm_50_13 (by decide)) ?_
  refine z_aload0 gi_157_156 ?_
  refine z_getI (v := J 29 5) gi_157_157 gk_50 ((zU_n (by decide)).trans ((zU_n (by decide)).trans ((zU_n (by decide)).trans ((zU_x (by decide)).trans ((zU_n (by decide)).trans ((zU_n (by decide)).trans ((zU_n (by decide)).trans ((zU_n (by decide)).trans ((zU_n (by decide)).trans ((zU_n (by decide)).trans ((zU_n (by decide)).trans (c1.symm)))))))))))) ?_
  refine z_iload3 gi_157_160 ?_
  refine z_iast (e := v) gi_157_161 gk_60 (by decide) (by omega) rfl ?_
  refine z_aload0 gi_157_162 ?_
  refine z_dup gi_157_163 rfl ?_
  refine z_getI (v := J 29 5) gi_157_164 gk_50 ((zU_n (by decide)).trans ((zU_n (by decide)).trans ((zU_n (by decide)).trans ((zU_n (by decide)).trans ((zU_x (by decide)).trans ((zU_n (by decide)).trans ((zU_n (by decide)).trans ((zU_n (by decide)).trans ((zU_n (by decide)).trans ((zU_n (by decide)).trans ((zU_n (by decide)).trans ((zU_n (by decide)).trans (c1.symm))))))))))))) ?_
  refine z_pushJ gp_157_167 ?_
  refine z_iadd (e := (J 29 5) + 1) gi_157_168 rfl ?_
  refine z_putI (y := 8) gi_157_169 rfl gk_50 ?_
  refine z_aload0 gi_157_172 ?_
  refine z_iload1 gi_157_173 ?_
  refine z_iload2 gi_157_174 ?_
  refine z_iload3 gi_157_175 ?_
  refine z_callVx (As := [_, _, _]) gi_157_176 rfl gk_50 (Nat.le_of_ble_eq_true rfl) (Nat.le_of_ble_eq_true rfl) (lays_p (n := J 8 2) hRr y2.symm yn hp (by decide) (by omega)) ?_
  show zW _ _ _ _ _ _ _ _ _ _
  refine z_iload4 gi_157_179 ?_
  refine z_iret gi_157_181 gr_157 ?_
  show zW _ _ _ _ _ _ _ _ _ _
  refine z_goto gi_162_24 ?_
  refine z_iret gi_162_28 gr_162 ?_
  refine ⟨?_, ?_⟩
  · first | rfl | exact congrArg (fun v => some (zi v)) (by omega) | (exfalso; omega)
  · have hs := (zK_u (a := 53) (x := p) (v := v) (zK_x (a := 50) (x := 8) (v := (J 29 5) + 1) (zK_x (a := 60) (x := J 29 5) (v := v) (zK_x (a := 59) (x := J 29 5) (v := (cN J) p (2)) (zK_x (a := 58) (x := J 29 5) (v := p) (zK_x (a := 57) (x := J 29 5) (v := 2) (zK_x (a := 50) (x := 9) (v := 0) (zK_u (a := 9) (x := p * 5 + 2) (v := v) (zK_x (a := 29) (x := 6) (v := (J 29 5) + 1) (zK_x (a := 29) (x := 5) (v := (J 29 5) + 1) (zK_x (a := 33) (x := J 29 5) (v := v) (zK_x (a := 32) (x := J 29 5) (v := (cN J) p (2)) (zK_x (a := 31) (x := J 29 5) (v := 2) (zK_x (a := 30) (x := J 29 5) (v := p) (zK_r (k := (kL [30, 31, 32, 33, 57, 58, 59, 60] [(29, 5), (29, 6), (50, 9), (50, 8)])) (A := J)) rfl) rfl) rfl) rfl) rfl) rfl)) rfl) rfl) rfl) rfl) rfl) rfl))
    have hY2 := RelY_k hs (by repeat' constructor) (fun p => by repeat' constructor) (RelY_p (p := p) (w := 2) hY (by omega) (by omega) hf2 (by omega) rfl rfl)
    have hok : zOkc (J 8 2) p (2) ((cN J) p (2)) v := ⟨hV, nf, hf2⟩
    have hk := (zK_x (a := 53) (x := p) (v := v) (zK_x (a := 50) (x := 8) (v := (J 29 5) + 1) (zK_x (a := 60) (x := J 29 5) (v := v) (zK_x (a := 59) (x := J 29 5) (v := (cN J) p (2)) (zK_x (a := 58) (x := J 29 5) (v := p) (zK_x (a := 57) (x := J 29 5) (v := 2) (zK_x (a := 50) (x := 9) (v := 0) (zK_x (a := 9) (x := p * 5 + 2) (v := v) (zK_x (a := 29) (x := 6) (v := (J 29 5) + 1) (zK_x (a := 29) (x := 5) (v := (J 29 5) + 1) (zK_x (a := 33) (x := J 29 5) (v := v) (zK_x (a := 32) (x := J 29 5) (v := (cN J) p (2)) (zK_x (a := 31) (x := J 29 5) (v := 2) (zK_x (a := 30) (x := J 29 5) (v := p) (zK_r (k := (kL [30, 31, 32, 33, 9, 57, 58, 59, 60, 53] [(29, 5), (29, 6), (50, 9), (50, 8)])) (A := J)) rfl) rfl) rfl) rfl) rfl) rfl) rfl) rfl) rfl) rfl) rfl) rfl) rfl) rfl)
    exact ⟨hR, hG, hY2, RelD_k hk (by repeat' constructor) (fun p => by repeat' constructor) hD, RelP_k hk (by repeat' constructor) (fun p => by repeat' constructor) hP, (RelC_mk (K := J) (d := J 29 5) (o := 0) rfl rfl rfl rfl (by omega) (by omega) rfl rfl hC (by omega) (fun i i1 i2 => ⟨⟨by rw [Int.add_zero i]; exact (zU_n (by decide)).trans ((zU_n (by decide)).trans ((zU_n (by decide)).trans ((zU_n (by decide)).trans ((zU_n (by decide)).trans ((zU_n (by decide)).trans ((zU_n (by decide)).trans ((zU_n (by decide)).trans ((zU_n (by decide)).trans ((zU_n (by decide)).trans ((zU_n (by decide)).trans ((zU_n (by decide)).trans ((zU_n (by decide)).trans ((zU_x (by omega)).trans (rfl)))))))))))))), by rw [Int.add_zero i]; exact (zU_n (by decide)).trans ((zU_n (by decide)).trans ((zU_n (by decide)).trans ((zU_n (by decide)).trans ((zU_n (by decide)).trans ((zU_n (by decide)).trans ((zU_n (by decide)).trans ((zU_n (by decide)).trans ((zU_n (by decide)).trans ((zU_n (by decide)).trans ((zU_n (by decide)).trans ((zU_n (by decide)).trans ((zU_x (by omega)).trans ((zU_n (by decide)).trans (rfl)))))))))))))), by rw [Int.add_zero i]; exact (zU_n (by decide)).trans ((zU_n (by decide)).trans ((zU_n (by decide)).trans ((zU_n (by decide)).trans ((zU_n (by decide)).trans ((zU_n (by decide)).trans ((zU_n (by decide)).trans ((zU_n (by decide)).trans ((zU_n (by decide)).trans ((zU_n (by decide)).trans ((zU_n (by decide)).trans ((zU_x (by omega)).trans ((zU_n (by decide)).trans ((zU_n (by decide)).trans (rfl)))))))))))))), by rw [Int.add_zero i]; exact (zU_n (by decide)).trans ((zU_n (by decide)).trans ((zU_n (by decide)).trans ((zU_n (by decide)).trans ((zU_n (by decide)).trans ((zU_n (by decide)).trans ((zU_n (by decide)).trans ((zU_n (by decide)).trans ((zU_n (by decide)).trans ((zU_n (by decide)).trans ((zU_x (by omega)).trans ((zU_n (by decide)).trans ((zU_n (by decide)).trans ((zU_n (by decide)).trans (rfl))))))))))))))⟩, ⟨by rw [Int.add_zero i]; exact (zU_n (by decide)).trans ((zU_n (by decide)).trans ((zU_n (by decide)).trans ((zU_n (by decide)).trans ((zU_x (by omega)).trans ((zU_n (by decide)).trans ((zU_n (by decide)).trans ((zU_n (by decide)).trans ((zU_n (by decide)).trans ((zU_n (by decide)).trans ((zU_n (by decide)).trans ((zU_n (by decide)).trans ((zU_n (by decide)).trans ((zU_n (by decide)).trans (rfl)))))))))))))), by rw [Int.add_zero i]; exact (zU_n (by decide)).trans ((zU_n (by decide)).trans ((zU_n (by decide)).trans ((zU_n (by decide)).trans ((zU_n (by decide)).trans ((zU_x (by omega)).trans ((zU_n (by decide)).trans ((zU_n (by decide)).trans ((zU_n (by decide)).trans ((zU_n (by decide)).trans ((zU_n (by decide)).trans ((zU_n (by decide)).trans ((zU_n (by decide)).trans ((zU_n (by decide)).trans (rfl)))))))))))))), by rw [Int.add_zero i]; exact (zU_n (by decide)).trans ((zU_n (by decide)).trans ((zU_n (by decide)).trans ((zU_x (by omega)).trans ((zU_n (by decide)).trans ((zU_n (by decide)).trans ((zU_n (by decide)).trans ((zU_n (by decide)).trans ((zU_n (by decide)).trans ((zU_n (by decide)).trans ((zU_n (by decide)).trans ((zU_n (by decide)).trans ((zU_n (by decide)).trans ((zU_n (by decide)).trans (rfl)))))))))))))), by rw [Int.add_zero i]; exact (zU_n (by decide)).trans ((zU_n (by decide)).trans ((zU_x (by omega)).trans ((zU_n (by decide)).trans ((zU_n (by decide)).trans ((zU_n (by decide)).trans ((zU_n (by decide)).trans ((zU_n (by decide)).trans ((zU_n (by decide)).trans ((zU_n (by decide)).trans ((zU_n (by decide)).trans ((zU_n (by decide)).trans ((zU_n (by decide)).trans ((zU_n (by decide)).trans (rfl))))))))))))))⟩⟩) ((zU_n (by decide)).trans ((zU_n (by decide)).trans ((zU_n (by decide)).trans ((zU_n (by decide)).trans ((zU_n (by decide)).trans ((zU_n (by decide)).trans ((zU_n (by decide)).trans ((zU_n (by decide)).trans ((zU_n (by decide)).trans ((zU_n (by decide)).trans ((zU_n (by decide)).trans ((zU_n (by decide)).trans ((zU_n (by decide)).trans (zU_e)))))))))))))) ((zU_n (by decide)).trans ((zU_n (by decide)).trans ((zU_n (by decide)).trans ((zU_n (by decide)).trans ((zU_n (by decide)).trans ((zU_n (by decide)).trans ((zU_n (by decide)).trans ((zU_n (by decide)).trans ((zU_n (by decide)).trans ((zU_n (by decide)).trans ((zU_n (by decide)).trans ((zU_n (by decide)).trans (zU_e))))))))))))) ((zU_n (by decide)).trans ((zU_n (by decide)).trans ((zU_n (by decide)).trans ((zU_n (by decide)).trans ((zU_n (by decide)).trans ((zU_n (by decide)).trans ((zU_n (by decide)).trans ((zU_n (by decide)).trans ((zU_n (by decide)).trans ((zU_n (by decide)).trans ((zU_n (by decide)).trans (zU_e)))))))))))) ((zU_n (by decide)).trans ((zU_n (by decide)).trans ((zU_n (by decide)).trans ((zU_n (by decide)).trans ((zU_n (by decide)).trans ((zU_n (by decide)).trans ((zU_n (by decide)).trans ((zU_n (by decide)).trans ((zU_n (by decide)).trans ((zU_n (by decide)).trans (zU_e))))))))))) ((zU_n (by decide)).trans ((zU_n (by decide)).trans ((zU_n (by decide)).trans ((zU_n (by decide)).trans (zU_e))))) ((zU_n (by decide)).trans ((zU_n (by decide)).trans ((zU_n (by decide)).trans ((zU_n (by decide)).trans ((zU_n (by decide)).trans (zU_e)))))) ((zU_n (by decide)).trans ((zU_n (by decide)).trans ((zU_n (by decide)).trans (zU_e)))) ((zU_n (by decide)).trans ((zU_n (by decide)).trans (zU_e))) hok), RelA_k hk (by repeat' constructor) (fun p => by repeat' constructor) hAc, RelS_k hk (zK_r (k := kM)) (fun x j a b => ⟨kL_38 (by decide) (by decide) x j a b, kM_38 x j a b⟩) (fun p => ⟨rfl, rfl, rfl⟩) rfl hS, RelT_k hk (by repeat' constructor) (fun p => by repeat' constructor) hTp, RelX_k hk (by repeat' constructor) (fun p => by repeat' constructor) hX, RelW_k hk ⟨rfl, rfl⟩ trivial hW⟩
theorem st_mend_p3 {X : Nat × (Nat → Int32)} {d : Nat} {J M : zA} {R : zR} {p v : Int} (hr : Rel X J M R) (hp : -2147483648 ≤ p ∧ p < 2147483648) (hv : -2147483648 ≤ v ∧ v < 2147483648) (hV : zV (J 8 2) p (3)) (hf : zT 2 (3) ≤ v ∧ v ≤ zT 3 (3)) (he : ¬ (cN J) p (3) = v) (h40 : J 29 5 < 40) : zW X (d + 20) 104 0 (gEn 104 [(.ref 0), (zi p), (zi 3), (zi v)]) [] J M R (stP X (d + 20) 162 [(zi p), (zi 3), (zi v)]) := by
  have hr0 := hr
  obtain ⟨hR, hG, hY, hD, hP, hC, hAc, hS, hTp, hX, hW⟩ := hr0
  have hRr : zRoR R := zRoR_of hR
  have hY0 := hY
  obtain ⟨y1, y2, y3⟩ := hY0
  have yn := zNn y3
  have hC0 := hC
  obtain ⟨c1, c2, c3, c4, c5, c6⟩ := hC0
  have nr := zN_r y3 hV
  have nf := zN_fit y3 hV
  have hf2 : zFit (3) v := hf
  show zW _ _ _ _ [some (.ref 0), some (zi p), some (zi 3), some (zi v), none] _ _ _ _ _
  refine z_aload0 gi_104_0 ?_
  refine z_getR (r := 8) gi_104_1 gk_0 (hR _ rm_0_1) ?_
  refine z_iload1 gi_104_4 ?_
  refine z_iload2 gi_104_5 ?_
  refine z_callVP (As := [_, _]) (v := 1) gi_104_6 rfl gk_8 (Nat.le_of_ble_eq_true rfl) (Nat.le_of_ble_eq_true rfl) (isNumber_1 hR rfl yn hp (by decide) hV) ?_
  refine z_if_eqF gi_104_9 zr_1 (by decide) ?_
  refine z_iload2 gi_104_12 ?_
  refine z_iload3 gi_104_13 ?_
  refine z_callSP (As := [_, _]) (v := 1) gi_104_14 rfl (Nat.le_of_ble_eq_true rfl) (Nat.le_of_ble_eq_true rfl) (isFit_1 hv (by decide) (by omega) hf) ?_
  refine z_if_neT gi_104_17 zr_1 (by decide) ?_
  refine z_aload0 gi_104_22 ?_
  refine z_getR (r := 8) gi_104_23 gk_0 (hR _ rm_0_1) ?_
  refine z_iload1 gi_104_26 ?_
  refine z_iload2 gi_104_27 ?_
  refine z_callVP (As := [_, _]) (v := (cN J) p (3)) gi_104_28 rfl gk_8 (Nat.le_of_ble_eq_true rfl) (Nat.le_of_ble_eq_true rfl) (told_k hR zK_r rfl rfl y3 hp (by decide)) ?_
  refine z_istore (ls1 := [some (.ref 0), some (zi p), some (zi 3), some (zi v), some (zi ((cN J) p (3)))]) gi_104_31 rfl ?_
  refine z_iload4 gi_104_33 ?_
  refine z_iload3 gi_104_35 ?_
  refine z_icmp_eqF gi_104_36 (by omega) (by omega) (by omega) ?_
  refine z_aload0 gi_104_39 ?_
  refine z_getR (r := 29) gi_104_40 gk_0 (hR _ rm_0_9) ?_
  refine z_iload1 gi_104_43 ?_
  refine z_iload2 gi_104_44 ?_
  refine z_iload4 gi_104_45 ?_
  refine z_iload3 gi_104_47 ?_
  refine z_cV4 gi_104_48 gk_29 go_14 (Nat.le_of_ble_eq_true rfl) gc_14_RIIII ?_
  refine z_aload0 gi_14_0 ?_
  refine z_getI (v := J 29 5) gi_14_1 gk_29 (rfl) ?_
  refine z_pushJ gp_14_4 ?_
  refine z_icmp_ltT gi_14_6 (by omega) zr_40 (by omega) ?_
  refine z_aload0 gi_14_13 ?_
  refine z_getR (r := 30) gi_14_14 gk_29 (hR _ rm_29_1) ?_
  refine z_aload0 gi_14_17 ?_
  refine z_getI (v := J 29 5) gi_14_18 gk_29 (rfl) ?_
  refine z_iload1 gi_14_21 ?_
  refine z_iast (e := p) gi_14_22 gk_30 (by decide) (by omega) rfl ?_
  refine z_aload0 gi_14_23 ?_
  refine z_getR (r := 31) gi_14_24 gk_29 (hR _ rm_29_2) ?_
  refine z_aload0 gi_14_27 ?_
  refine z_getI (v := J 29 5) gi_14_28 gk_29 ((zU_n (by decide)).trans (rfl)) ?_
  refine z_iload2 gi_14_31 ?_
  refine z_iast (e := 3) gi_14_32 gk_31 (by decide) (by omega) rfl ?_
  refine z_aload0 gi_14_33 ?_
  refine z_getR (r := 32) gi_14_34 gk_29 (hR _ rm_29_3) ?_
  refine z_aload0 gi_14_37 ?_
  refine z_getI (v := J 29 5) gi_14_38 gk_29 ((zU_n (by decide)).trans ((zU_n (by decide)).trans (rfl))) ?_
  refine z_iload3 gi_14_41 ?_
  refine z_iast (e := (cN J) p (3)) gi_14_42 gk_32 (by decide) (by omega) rfl ?_
  refine z_aload0 gi_14_43 ?_
  refine z_getR (r := 33) gi_14_44 gk_29 (hR _ rm_29_4) ?_
  refine z_aload0 gi_14_47 ?_
  refine z_getI (v := J 29 5) gi_14_48 gk_29 ((zU_n (by decide)).trans ((zU_n (by decide)).trans ((zU_n (by decide)).trans (rfl)))) ?_
  refine z_iload4 gi_14_51 ?_
  refine z_iast (e := v) gi_14_53 gk_33 (by decide) (by omega) rfl ?_
  refine z_aload0 gi_14_54 ?_
  refine z_dup gi_14_55 rfl ?_
  refine z_getI (v := J 29 5) gi_14_56 gk_29 ((zU_n (by decide)).trans ((zU_n (by decide)).trans ((zU_n (by decide)).trans ((zU_n (by decide)).trans (rfl))))) ?_
  refine z_pushJ gp_14_59 ?_
  refine z_iadd (e := (J 29 5) + 1) gi_14_60 rfl ?_
  refine z_putI (y := 5) gi_14_61 rfl gk_29 ?_
  refine z_aload0 gi_14_64 ?_
  refine z_aload0 gi_14_65 ?_
  refine z_getI (v := (J 29 5) + 1) gi_14_66 gk_29 (zU_e) ?_
  refine z_putI (y := 6) gi_14_69 rfl gk_29 ?_
  refine z_vret gi_14_72 gr_14 ?_
  show zW _ _ _ _ _ _ _ _ _ _
  refine z_aload0 gi_104_51 ?_
  refine z_getR (r := 8) gi_104_52 gk_0 (hR _ rm_0_1) ?_
  refine z_iload1 gi_104_55 ?_
  refine z_iload2 gi_104_56 ?_
  refine z_iload3 gi_104_57 ?_
  refine z_callVx (As := [_, _, _]) gi_104_58 rfl gk_8 (Nat.le_of_ble_eq_true rfl) (Nat.le_of_ble_eq_true rfl) (tell_p (n := J 8 2) hR rfl yn hp (by decide) (by omega)) ?_
  show zW _ _ _ _ _ _ _ _ _ _
  refine z_iload4 gi_104_61 ?_
  refine z_iret gi_104_63 gr_104 ?_
  refine ⟨_, rfl, ?_⟩
  show zW _ _ _ _ [some (.ref 50), some (zi p), some (zi 3), some (zi v)] _ _ _ _ _
  refine z_aload0 gi_162_0 ?_
  refine z_iload1 gi_162_1 ?_
  refine z_iload2 gi_162_2 ?_
  refine z_callVP (As := [_, _]) (v := 1) gi_162_3 rfl gk_50 (Nat.le_of_ble_eq_true rfl) (Nat.le_of_ble_eq_true rfl) (isOne_1 hRr y2.symm yn hp (by decide) hV) ?_
  refine z_if_eqF gi_162_6 zr_1 (by decide) ?_
  refine z_iload2 gi_162_9 ?_
  refine z_iload3 gi_162_10 ?_
  refine z_callSP (As := [_, _]) (v := 1) gi_162_11 rfl (Nat.le_of_ble_eq_true rfl) (Nat.le_of_ble_eq_true rfl) (mayBe_1 hv (by decide) (by omega) hf) ?_
  refine z_if_eqF gi_162_14 zr_1 (by decide) ?_
  refine z_aload0 gi_162_17 ?_
  refine z_iload2 gi_162_18 ?_
  refine z_iload1 gi_162_19 ?_
  refine z_iload3 gi_162_20 ?_
  refine z_callVi (As := [_, _, _]) (le := [some _, some _, some _, some _, none, none]) gi_162_21 rfl gk_50 (Nat.le_of_ble_eq_true rfl) (Nat.le_of_ble_eq_true rfl) rfl ?_
  refine z_aload0 gi_157_0 ?_
  refine z_iload1 gi_157_1 ?_
  refine z_iload2 gi_157_2 ?_
  refine z_callVP (As := [_, _]) (v := (cN J) p (3)) gi_157_3 rfl gk_50 (Nat.le_of_ble_eq_true rfl) (Nat.le_of_ble_eq_true rfl) (valueAt_s hRr ((rN_z (zK_x (a := 9) (x := p * 5 + 3) (v := v) (zK_x (a := 29) (x := 6) (v := (J 29 5) + 1) (zK_x (a := 29) (x := 5) (v := (J 29 5) + 1) (zK_x (a := 33) (x := J 29 5) (v := v) (zK_x (a := 32) (x := J 29 5) (v := (cN J) p (3)) (zK_x (a := 31) (x := J 29 5) (v := 3) (zK_x (a := 30) (x := J 29 5) (v := p) (zK_r (k := kHi) (A := J)) rfl) rfl) rfl) rfl) rfl) rfl) rfl)).trans y1.symm) y2.symm y3 hp (by decide) hV) ?_
  refine z_istore (ls1 := [some (.ref 50), some (zi 3), some (zi p), some (zi v), some (zi ((cN J) p (3))), none]) gi_157_6 rfl ?_
  refine z_iload4 gi_157_8 ?_
  refine z_iload3 gi_157_10 ?_
  refine z_icmp_neT gi_157_11 (by omega) (by omega) (by omega) ?_
  refine z_aload0 gi_157_17 ?_
  refine z_pushJ gp_157_18 ?_
  refine z_putI (y := 9) gi_157_19 rfl gk_50 ?_
  refine z_aload0 gi_157_22 ?_
  refine z_getI (v := J 29 5) gi_157_23 gk_50 ((zU_x (by decide)).trans ((zU_n (by decide)).trans ((zU_n (by decide)).trans ((zU_n (by decide)).trans ((zU_n (by decide)).trans ((zU_n (by decide)).trans ((zU_n (by decide)).trans ((zU_n (by decide)).trans (c1.symm))))))))) ?_
  refine z_pushJ gp_157_26 ?_
  refine z_icmp_neT gi_157_28 (by omega) zr_40 (by omega) ?_
  refine z_aload0 gi_157_121 ?_
  refine z_getR (r := 57) gi_157_122 gk_50 (hRr _ rm_50_10 (by decide)) ?_
  refine z_aload0 gi_157_125 ?_
  refine z_getI (v := J 29 5) gi_157_126 gk_50 ((zU_x (by decide)).trans ((zU_n (by decide)).trans ((zU_n (by decide)).trans ((zU_n (by decide)).trans ((zU_n (by decide)).trans ((zU_n (by decide)).trans ((zU_n (by decide)).trans ((zU_n (by decide)).trans (c1.symm))))))))) ?_
  refine z_iload1 gi_157_129 ?_
  refine z_iast (e := 3) gi_157_130 gk_57 (by decide) (by omega) rfl ?_
  refine z_aload0 gi_157_131 ?_
  refine z_getR (r := 58) gi_157_132 gk_50 (hRr _ rm_50_11 (by decide)) ?_
  refine z_aload0 gi_157_135 ?_
  refine z_getI (v := J 29 5) gi_157_136 gk_50 ((zU_n (by decide)).trans ((zU_x (by decide)).trans ((zU_n (by decide)).trans ((zU_n (by decide)).trans ((zU_n (by decide)).trans ((zU_n (by decide)).trans ((zU_n (by decide)).trans ((zU_n (by decide)).trans ((zU_n (by decide)).trans (c1.symm)))))))))) ?_
  refine z_iload2 gi_157_139 ?_
  refine z_iast (e := p) gi_157_140 gk_58 (by decide) (by omega) rfl ?_
  refine z_aload0 gi_157_141 ?_
  refine z_getR (r := 59) gi_157_142 gk_50 (hRr _ rm_50_12 (by decide)) ?_
  refine z_aload0 gi_157_145 ?_
  refine z_getI (v := J 29 5) gi_157_146 gk_50 ((zU_n (by decide)).trans ((zU_n (by decide)).trans ((zU_x (by decide)).trans ((zU_n (by decide)).trans ((zU_n (by decide)).trans ((zU_n (by decide)).trans ((zU_n (by decide)).trans ((zU_n (by decide)).trans ((zU_n (by decide)).trans ((zU_n (by decide)).trans (c1.symm))))))))))) ?_
  refine z_iload4 gi_157_149 ?_
  refine z_iast (e := (cN J) p (3)) gi_157_151 gk_59 (by decide) (by omega) rfl ?_
  refine z_aload0 gi_157_152 ?_
  refine z_getR (r := 60) gi_157_153 gk_50 (hRr _ rm_50_13 (by decide)) ?_
  refine z_aload0 gi_157_156 ?_
  refine z_getI (v := J 29 5) gi_157_157 gk_50 ((zU_n (by decide)).trans ((zU_n (by decide)).trans ((zU_n (by decide)).trans ((zU_x (by decide)).trans ((zU_n (by decide)).trans ((zU_n (by decide)).trans ((zU_n (by decide)).trans ((zU_n (by decide)).trans ((zU_n (by decide)).trans ((zU_n (by decide)).trans ((zU_n (by decide)).trans (c1.symm)))))))))))) ?_
  refine z_iload3 gi_157_160 ?_
  refine z_iast (e := v) gi_157_161 gk_60 (by decide) (by omega) rfl ?_
  refine z_aload0 gi_157_162 ?_
  refine z_dup gi_157_163 rfl ?_
  refine z_getI (v := J 29 5) gi_157_164 gk_50 ((zU_n (by decide)).trans ((zU_n (by decide)).trans ((zU_n (by decide)).trans ((zU_n (by decide)).trans ((zU_x (by decide)).trans ((zU_n (by decide)).trans ((zU_n (by decide)).trans ((zU_n (by decide)).trans ((zU_n (by decide)).trans ((zU_n (by decide)).trans ((zU_n (by decide)).trans ((zU_n (by decide)).trans (c1.symm))))))))))))) ?_
  refine z_pushJ gp_157_167 ?_
  refine z_iadd (e := (J 29 5) + 1) gi_157_168 rfl ?_
  refine z_putI (y := 8) gi_157_169 rfl gk_50 ?_
  refine z_aload0 gi_157_172 ?_
  refine z_iload1 gi_157_173 ?_
  refine z_iload2 gi_157_174 ?_
  refine z_iload3 gi_157_175 ?_
  refine z_callVx (As := [_, _, _]) gi_157_176 rfl gk_50 (Nat.le_of_ble_eq_true rfl) (Nat.le_of_ble_eq_true rfl) (lays_p (n := J 8 2) hRr y2.symm yn hp (by decide) (by omega)) ?_
  show zW _ _ _ _ _ _ _ _ _ _
  refine z_iload4 gi_157_179 ?_
  refine z_iret gi_157_181 gr_157 ?_
  show zW _ _ _ _ _ _ _ _ _ _
  refine z_goto gi_162_24 ?_
  refine z_iret gi_162_28 gr_162 ?_
  refine ⟨?_, ?_⟩
  · first | rfl | exact congrArg (fun v => some (zi v)) (by omega) | (exfalso; omega)
  · have hs := (zK_u (a := 54) (x := p) (v := v) (zK_x (a := 50) (x := 8) (v := (J 29 5) + 1) (zK_x (a := 60) (x := J 29 5) (v := v) (zK_x (a := 59) (x := J 29 5) (v := (cN J) p (3)) (zK_x (a := 58) (x := J 29 5) (v := p) (zK_x (a := 57) (x := J 29 5) (v := 3) (zK_x (a := 50) (x := 9) (v := 0) (zK_u (a := 9) (x := p * 5 + 3) (v := v) (zK_x (a := 29) (x := 6) (v := (J 29 5) + 1) (zK_x (a := 29) (x := 5) (v := (J 29 5) + 1) (zK_x (a := 33) (x := J 29 5) (v := v) (zK_x (a := 32) (x := J 29 5) (v := (cN J) p (3)) (zK_x (a := 31) (x := J 29 5) (v := 3) (zK_x (a := 30) (x := J 29 5) (v := p) (zK_r (k := (kL [30, 31, 32, 33, 57, 58, 59, 60] [(29, 5), (29, 6), (50, 9), (50, 8)])) (A := J)) rfl) rfl) rfl) rfl) rfl) rfl)) rfl) rfl) rfl) rfl) rfl) rfl))
    have hY2 := RelY_k hs (by repeat' constructor) (fun p => by repeat' constructor) (RelY_p (p := p) (w := 3) hY (by omega) (by omega) hf2 (by omega) rfl rfl)
    have hok : zOkc (J 8 2) p (3) ((cN J) p (3)) v := ⟨hV, nf, hf2⟩
    have hk := (zK_x (a := 54) (x := p) (v := v) (zK_x (a := 50) (x := 8) (v := (J 29 5) + 1) (zK_x (a := 60) (x := J 29 5) (v := v) (zK_x (a := 59) (x := J 29 5) (v := (cN J) p (3)) (zK_x (a := 58) (x := J 29 5) (v := p) (zK_x (a := 57) (x := J 29 5) (v := 3) (zK_x (a := 50) (x := 9) (v := 0) (zK_x (a := 9) (x := p * 5 + 3) (v := v) (zK_x (a := 29) (x := 6) (v := (J 29 5) + 1) (zK_x (a := 29) (x := 5) (v := (J 29 5) + 1) (zK_x (a := 33) (x := J 29 5) (v := v) (zK_x (a := 32) (x := J 29 5) (v := (cN J) p (3)) (zK_x (a := 31) (x := J 29 5) (v := 3) (zK_x (a := 30) (x := J 29 5) (v := p) (zK_r (k := (kL [30, 31, 32, 33, 9, 57, 58, 59, 60, 54] [(29, 5), (29, 6), (50, 9), (50, 8)])) (A := J)) rfl) rfl) rfl) rfl) rfl) rfl) rfl) rfl) rfl) rfl) rfl) rfl) rfl) rfl)
    exact ⟨hR, hG, hY2, RelD_k hk (by repeat' constructor) (fun p => by repeat' constructor) hD, RelP_k hk (by repeat' constructor) (fun p => by repeat' constructor) hP, (RelC_mk (K := J) (d := J 29 5) (o := 0) rfl rfl rfl rfl (by omega) (by omega) rfl rfl hC (by omega) (fun i i1 i2 => ⟨⟨by rw [Int.add_zero i]; exact (zU_n (by decide)).trans ((zU_n (by decide)).trans ((zU_n (by decide)).trans ((zU_n (by decide)).trans ((zU_n (by decide)).trans ((zU_n (by decide)).trans ((zU_n (by decide)).trans ((zU_n (by decide)).trans ((zU_n (by decide)).trans ((zU_n (by decide)).trans ((zU_n (by decide)).trans ((zU_n (by decide)).trans ((zU_n (by decide)).trans ((zU_x (by omega)).trans (rfl)))))))))))))), by rw [Int.add_zero i]; exact (zU_n (by decide)).trans ((zU_n (by decide)).trans ((zU_n (by decide)).trans ((zU_n (by decide)).trans ((zU_n (by decide)).trans ((zU_n (by decide)).trans ((zU_n (by decide)).trans ((zU_n (by decide)).trans ((zU_n (by decide)).trans ((zU_n (by decide)).trans ((zU_n (by decide)).trans ((zU_n (by decide)).trans ((zU_x (by omega)).trans ((zU_n (by decide)).trans (rfl)))))))))))))), by rw [Int.add_zero i]; exact (zU_n (by decide)).trans ((zU_n (by decide)).trans ((zU_n (by decide)).trans ((zU_n (by decide)).trans ((zU_n (by decide)).trans ((zU_n (by decide)).trans ((zU_n (by decide)).trans ((zU_n (by decide)).trans ((zU_n (by decide)).trans ((zU_n (by decide)).trans ((zU_n (by decide)).trans ((zU_x (by omega)).trans ((zU_n (by decide)).trans ((zU_n (by decide)).trans (rfl)))))))))))))), by rw [Int.add_zero i]; exact (zU_n (by decide)).trans ((zU_n (by decide)).trans ((zU_n (by decide)).trans ((zU_n (by decide)).trans ((zU_n (by decide)).trans ((zU_n (by decide)).trans ((zU_n (by decide)).trans ((zU_n (by decide)).trans ((zU_n (by decide)).trans ((zU_n (by decide)).trans ((zU_x (by omega)).trans ((zU_n (by decide)).trans ((zU_n (by decide)).trans ((zU_n (by decide)).trans (rfl))))))))))))))⟩, ⟨by rw [Int.add_zero i]; exact (zU_n (by decide)).trans ((zU_n (by decide)).trans ((zU_n (by decide)).trans ((zU_n (by decide)).trans ((zU_x (by omega)).trans ((zU_n (by decide)).trans ((zU_n (by decide)).trans ((zU_n (by decide)).trans ((zU_n (by decide)).trans ((zU_n (by decide)).trans ((zU_n (by decide)).trans ((zU_n (by decide)).trans ((zU_n (by decide)).trans ((zU_n (by decide)).trans (rfl)))))))))))))), by rw [Int.add_zero i]; exact (zU_n (by decide)).trans ((zU_n (by decide)).trans ((zU_n (by decide)).trans ((zU_n (by decide)).trans ((zU_n (by decide)).trans ((zU_x (by omega)).trans ((zU_n (by decide)).trans ((zU_n (by decide)).trans ((zU_n (by decide)).trans ((zU_n (by decide)).trans ((zU_n (by decide)).trans ((zU_n (by decide)).trans ((zU_n (by decide)).trans ((zU_n (by decide)).trans (rfl)))))))))))))), by rw [Int.add_zero i]; exact (zU_n (by decide)).trans ((zU_n (by decide)).trans ((zU_n (by decide)).trans ((zU_x (by omega)).trans ((zU_n (by decide)).trans ((zU_n (by decide)).trans ((zU_n (by decide)).trans ((zU_n (by decide)).trans ((zU_n (by decide)).trans ((zU_n (by decide)).trans ((zU_n (by decide)).trans ((zU_n (by decide)).trans ((zU_n (by decide)).trans ((zU_n (by decide)).trans (rfl)))))))))))))), by rw [Int.add_zero i]; exact (zU_n (by decide)).trans ((zU_n (by decide)).trans ((zU_x (by omega)).trans ((zU_n (by decide)).trans ((zU_n (by decide)).trans ((zU_n (by decide)).trans ((zU_n (by decide)).trans ((zU_n (by decide)).trans ((zU_n (by decide)).trans ((zU_n (by decide)).trans ((zU_n (by decide)).trans ((zU_n (by decide)).trans ((zU_n (by decide)).trans ((zU_n (by decide)).trans (rfl))))))))))))))⟩⟩) ((zU_n (by decide)).trans ((zU_n (by decide)).trans ((zU_n (by decide)).trans ((zU_n (by decide)).trans ((zU_n (by decide)).trans ((zU_n (by decide)).trans ((zU_n (by decide)).trans ((zU_n (by decide)).trans ((zU_n (by decide)).trans ((zU_n (by decide)).trans ((zU_n (by decide)).trans ((zU_n (by decide)).trans ((zU_n (by decide)).trans (zU_e)))))))))))))) ((zU_n (by decide)).trans ((zU_n (by decide)).trans ((zU_n (by decide)).trans ((zU_n (by decide)).trans ((zU_n (by decide)).trans ((zU_n (by decide)).trans ((zU_n (by decide)).trans ((zU_n (by decide)).trans ((zU_n (by decide)).trans ((zU_n (by decide)).trans ((zU_n (by decide)).trans ((zU_n (by decide)).trans (zU_e))))))))))))) ((zU_n (by decide)).trans ((zU_n (by decide)).trans ((zU_n (by decide)).trans ((zU_n (by decide)).trans ((zU_n (by decide)).trans ((zU_n (by decide)).trans ((zU_n (by decide)).trans ((zU_n (by decide)).trans ((zU_n (by decide)).trans ((zU_n (by decide)).trans ((zU_n (by decide)).trans (zU_e)))))))))))) ((zU_n (by decide)).trans ((zU_n (by decide)).trans ((zU_n (by decide)).trans ((zU_n (by decide)).trans ((zU_n (by decide)).trans ((zU_n (by decide)).trans ((zU_n (by decide)).trans ((zU_n (by decide)).trans ((zU_n (by decide)).trans ((zU_n (by decide)).trans (zU_e))))))))))) ((zU_n (by decide)).trans ((zU_n (by decide)).trans ((zU_n (by decide)).trans ((zU_n (by decide)).trans (zU_e))))) ((zU_n (by decide)).trans ((zU_n (by decide)).trans ((zU_n (by decide)).trans ((zU_n (by decide)).trans ((zU_n (by decide)).trans (zU_e)))))) ((zU_n (by decide)).trans ((zU_n (by decide)).trans ((zU_n (by decide)).trans (zU_e)))) ((zU_n (by decide)).trans ((zU_n (by decide)).trans (zU_e))) hok), RelA_k hk (by repeat' constructor) (fun p => by repeat' constructor) hAc, RelS_k hk (zK_r (k := kM)) (fun x j a b => ⟨kL_38 (by decide) (by decide) x j a b, kM_38 x j a b⟩) (fun p => ⟨rfl, rfl, rfl⟩) rfl hS, RelT_k hk (by repeat' constructor) (fun p => by repeat' constructor) hTp, RelX_k hk (by repeat' constructor) (fun p => by repeat' constructor) hX, RelW_k hk ⟨rfl, rfl⟩ trivial hW⟩
theorem st_mend_p4 {X : Nat × (Nat → Int32)} {d : Nat} {J M : zA} {R : zR} {p v : Int} (hr : Rel X J M R) (hp : -2147483648 ≤ p ∧ p < 2147483648) (hv : -2147483648 ≤ v ∧ v < 2147483648) (hV : zV (J 8 2) p (4)) (hf : zT 2 (4) ≤ v ∧ v ≤ zT 3 (4)) (he : ¬ (cN J) p (4) = v) (h40 : J 29 5 < 40) : zW X (d + 20) 104 0 (gEn 104 [(.ref 0), (zi p), (zi 4), (zi v)]) [] J M R (stP X (d + 20) 162 [(zi p), (zi 4), (zi v)]) := by
  have hr0 := hr
  obtain ⟨hR, hG, hY, hD, hP, hC, hAc, hS, hTp, hX, hW⟩ := hr0
  have hRr : zRoR R := zRoR_of hR
  have hY0 := hY
  obtain ⟨y1, y2, y3⟩ := hY0
  have yn := zNn y3
  have hC0 := hC
  obtain ⟨c1, c2, c3, c4, c5, c6⟩ := hC0
  have nr := zN_r y3 hV
  have nf := zN_fit y3 hV
  have hf2 : zFit (4) v := hf
  show zW _ _ _ _ [some (.ref 0), some (zi p), some (zi 4), some (zi v), none] _ _ _ _ _
  refine z_aload0 gi_104_0 ?_
  refine z_getR (r := 8) gi_104_1 gk_0 (hR _ rm_0_1) ?_
  refine z_iload1 gi_104_4 ?_
  refine z_iload2 gi_104_5 ?_
  refine z_callVP (As := [_, _]) (v := 1) gi_104_6 rfl gk_8 (Nat.le_of_ble_eq_true rfl) (Nat.le_of_ble_eq_true rfl) (isNumber_1 hR rfl yn hp (by decide) hV) ?_
  refine z_if_eqF gi_104_9 zr_1 (by decide) ?_
  refine z_iload2 gi_104_12 ?_
  refine z_iload3 gi_104_13 ?_
  refine z_callSP (As := [_, _]) (v := 1) gi_104_14 rfl (Nat.le_of_ble_eq_true rfl) (Nat.le_of_ble_eq_true rfl) (isFit_1 hv (by decide) (by omega) hf) ?_
  refine z_if_neT gi_104_17 zr_1 (by decide) ?_
  refine z_aload0 gi_104_22 ?_
  refine z_getR (r := 8) gi_104_23 gk_0 (hR _ rm_0_1) ?_
  refine z_iload1 gi_104_26 ?_
  refine z_iload2 gi_104_27 ?_
  refine z_callVP (As := [_, _]) (v := (cN J) p (4)) gi_104_28 rfl gk_8 (Nat.le_of_ble_eq_true rfl) (Nat.le_of_ble_eq_true rfl) (told_k hR zK_r rfl rfl y3 hp (by decide)) ?_
  refine z_istore (ls1 := [some (.ref 0), some (zi p), some (zi 4), some (zi v), some (zi ((cN J) p (4)))]) gi_104_31 rfl ?_
  refine z_iload4 gi_104_33 ?_
  refine z_iload3 gi_104_35 ?_
  refine z_icmp_eqF gi_104_36 (by omega) (by omega) (by omega) ?_
  refine z_aload0 gi_104_39 ?_
  refine z_getR (r := 29) gi_104_40 gk_0 (hR _ rm_0_9) ?_
  refine z_iload1 gi_104_43 ?_
  refine z_iload2 gi_104_44 ?_
  refine z_iload4 gi_104_45 ?_
  refine z_iload3 gi_104_47 ?_
  refine z_cV4 gi_104_48 gk_29 go_14 (Nat.le_of_ble_eq_true rfl) gc_14_RIIII ?_
  refine z_aload0 gi_14_0 ?_
  refine z_getI (v := J 29 5) gi_14_1 gk_29 (rfl) ?_
  refine z_pushJ gp_14_4 ?_
  refine z_icmp_ltT gi_14_6 (by omega) zr_40 (by omega) ?_
  refine z_aload0 gi_14_13 ?_
  refine z_getR (r := 30) gi_14_14 gk_29 (hR _ rm_29_1) ?_
  refine z_aload0 gi_14_17 ?_
  refine z_getI (v := J 29 5) gi_14_18 gk_29 (rfl) ?_
  refine z_iload1 gi_14_21 ?_
  refine z_iast (e := p) gi_14_22 gk_30 (by decide) (by omega) rfl ?_
  refine z_aload0 gi_14_23 ?_
  refine z_getR (r := 31) gi_14_24 gk_29 (hR _ rm_29_2) ?_
  refine z_aload0 gi_14_27 ?_
  refine z_getI (v := J 29 5) gi_14_28 gk_29 ((zU_n (by decide)).trans (rfl)) ?_
  refine z_iload2 gi_14_31 ?_
  refine z_iast (e := 4) gi_14_32 gk_31 (by decide) (by omega) rfl ?_
  refine z_aload0 gi_14_33 ?_
  refine z_getR (r := 32) gi_14_34 gk_29 (hR _ rm_29_3) ?_
  refine z_aload0 gi_14_37 ?_
  refine z_getI (v := J 29 5) gi_14_38 gk_29 ((zU_n (by decide)).trans ((zU_n (by decide)).trans (rfl))) ?_
  refine z_iload3 gi_14_41 ?_
  refine z_iast (e := (cN J) p (4)) gi_14_42 gk_32 (by decide) (by omega) rfl ?_
  refine z_aload0 gi_14_43 ?_
  refine z_getR (r := 33) gi_14_44 gk_29 (hR _ rm_29_4) ?_
  refine z_aload0 gi_14_47 ?_
  refine z_getI (v := J 29 5) gi_14_48 gk_29 ((zU_n (by decide)).trans ((zU_n (by decide)).trans ((zU_n (by decide)).trans (rfl)))) ?_
  refine z_iload4 gi_14_51 ?_
  refine z_iast (e := v) gi_14_53 gk_33 (by decide) (by omega) rfl ?_
  refine z_aload0 gi_14_54 ?_
  refine z_dup gi_14_55 rfl ?_
  refine z_getI (v := J 29 5) gi_14_56 gk_29 ((zU_n (by decide)).trans ((zU_n (by decide)).trans ((zU_n (by decide)).trans ((zU_n (by decide)).trans (rfl))))) ?_
  refine z_pushJ gp_14_59 ?_
  refine z_iadd (e := (J 29 5) + 1) gi_14_60 rfl ?_
  refine z_putI (y := 5) gi_14_61 rfl gk_29 ?_
  refine z_aload0 gi_14_64 ?_
  refine z_aload0 gi_14_65 ?_
  refine z_getI (v := (J 29 5) + 1) gi_14_66 gk_29 (zU_e) ?_
  refine z_putI (y := 6) gi_14_69 rfl gk_29 ?_
  refine z_vret gi_14_72 gr_14 ?_
  show zW _ _ _ _ _ _ _ _ _ _
  refine z_aload0 gi_104_51 ?_
  refine z_getR (r := 8) gi_104_52 gk_0 (hR _ rm_0_1) ?_
  refine z_iload1 gi_104_55 ?_
  refine z_iload2 gi_104_56 ?_
  refine z_iload3 gi_104_57 ?_
  refine z_callVx (As := [_, _, _]) gi_104_58 rfl gk_8 (Nat.le_of_ble_eq_true rfl) (Nat.le_of_ble_eq_true rfl) (tell_p (n := J 8 2) hR rfl yn hp (by decide) (by omega)) ?_
  show zW _ _ _ _ _ _ _ _ _ _
  refine z_iload4 gi_104_61 ?_
  refine z_iret gi_104_63 gr_104 ?_
  refine ⟨_, rfl, ?_⟩
  show zW _ _ _ _ [some (.ref 50), some (zi p), some (zi 4), some (zi v)] _ _ _ _ _
  refine z_aload0 gi_162_0 ?_
  refine z_iload1 gi_162_1 ?_
  refine z_iload2 gi_162_2 ?_
  refine z_callVP (As := [_, _]) (v := 1) gi_162_3 rfl gk_50 (Nat.le_of_ble_eq_true rfl) (Nat.le_of_ble_eq_true rfl) (isOne_1 hRr y2.symm yn hp (by decide) hV) ?_
  refine z_if_eqF gi_162_6 zr_1 (by decide) ?_
  refine z_iload2 gi_162_9 ?_
  refine z_iload3 gi_162_10 ?_
  refine z_callSP (As := [_, _]) (v := 1) gi_162_11 rfl (Nat.le_of_ble_eq_true rfl) (Nat.le_of_ble_eq_true rfl) (mayBe_1 hv (by decide) (by omega) hf) ?_
  refine z_if_eqF gi_162_14 zr_1 (by decide) ?_
  refine z_aload0 gi_162_17 ?_
  refine z_iload2 gi_162_18 ?_
  refine z_iload1 gi_162_19 ?_
  refine z_iload3 gi_162_20 ?_
  refine z_callVi (As := [_, _, _]) (le := [some _, some _, some _, some _, none, none]) gi_162_21 rfl gk_50 (Nat.le_of_ble_eq_true rfl) (Nat.le_of_ble_eq_true rfl) rfl ?_
  refine z_aload0 gi_157_0 ?_
  refine z_iload1 gi_157_1 ?_
  refine z_iload2 gi_157_2 ?_
  refine z_callVP (As := [_, _]) (v := (cN J) p (4)) gi_157_3 rfl gk_50 (Nat.le_of_ble_eq_true rfl) (Nat.le_of_ble_eq_true rfl) (valueAt_s hRr ((rN_z (zK_x (a := 9) (x := p * 5 + 4) (v := v) (zK_x (a := 29) (x := 6) (v := (J 29 5) + 1) (zK_x (a := 29) (x := 5) (v := (J 29 5) + 1) (zK_x (a := 33) (x := J 29 5) (v := v) (zK_x (a := 32) (x := J 29 5) (v := (cN J) p (4)) (zK_x (a := 31) (x := J 29 5) (v := 4) (zK_x (a := 30) (x := J 29 5) (v := p) (zK_r (k := kHi) (A := J)) rfl) rfl) rfl) rfl) rfl) rfl) rfl)).trans y1.symm) y2.symm y3 hp (by decide) hV) ?_
  refine z_istore (ls1 := [some (.ref 50), some (zi 4), some (zi p), some (zi v), some (zi ((cN J) p (4))), none]) gi_157_6 rfl ?_
  refine z_iload4 gi_157_8 ?_
  refine z_iload3 gi_157_10 ?_
  refine z_icmp_neT gi_157_11 (by omega) (by omega) (by omega) ?_
  refine z_aload0 gi_157_17 ?_
  refine z_pushJ gp_157_18 ?_
  refine z_putI (y := 9) gi_157_19 rfl gk_50 ?_
  refine z_aload0 gi_157_22 ?_
  refine z_getI (v := J 29 5) gi_157_23 gk_50 ((zU_x (by decide)).trans ((zU_n (by decide)).trans ((zU_n (by decide)).trans ((zU_n (by decide)).trans ((zU_n (by decide)).trans ((zU_n (by decide)).trans ((zU_n (by decide)).trans ((zU_n (by decide)).trans (c1.symm))))))))) ?_
  refine z_pushJ gp_157_26 ?_
  refine z_icmp_neT gi_157_28 (by omega) zr_40 (by omega) ?_
  refine z_aload0 gi_157_121 ?_
  refine z_getR (r := 57) gi_157_122 gk_50 (hRr _ rm_50_10 (by decide)) ?_
  refine z_aload0 gi_157_125 ?_
  refine z_getI (v := J 29 5) gi_157_126 gk_50 ((zU_x (by decide)).trans ((zU_n (by decide)).trans ((zU_n (by decide)).trans ((zU_n (by decide)).trans ((zU_n (by decide)).trans ((zU_n (by decide)).trans ((zU_n (by decide)).trans ((zU_n (by decide)).trans (c1.symm))))))))) ?_
  refine z_iload1 gi_157_129 ?_
  refine z_iast (e := 4) gi_157_130 gk_57 (by decide) (by omega) rfl ?_
  refine z_aload0 gi_157_131 ?_
  refine z_getR (r := 58) gi_157_132 gk_50 (hRr _ rm_50_11 (by decide)) ?_
  refine z_aload0 gi_157_135 ?_
  refine z_getI (v := J 29 5) gi_157_136 gk_50 ((zU_n (by decide)).trans ((zU_x (by decide)).trans ((zU_n (by decide)).trans ((zU_n (by decide)).trans ((zU_n (by decide)).trans ((zU_n (by decide)).trans ((zU_n (by decide)).trans ((zU_n (by decide)).trans ((zU_n (by decide)).trans (c1.symm)))))))))) ?_
  refine z_iload2 gi_157_139 ?_
  refine z_iast (e := p) gi_157_140 gk_58 (by decide) (by omega) rfl ?_
  refine z_aload0 gi_157_141 ?_
  refine z_getR (r := 59) gi_157_142 gk_50 (hRr _ rm_50_12 (by decide)) ?_
  refine z_aload0 gi_157_145 ?_
  refine z_getI (v := J 29 5) gi_157_146 gk_50 ((zU_n (by decide)).trans ((zU_n (by decide)).trans ((zU_x (by decide)).trans ((zU_n (by decide)).trans ((zU_n (by decide)).trans ((zU_n (by decide)).trans ((zU_n (by decide)).trans ((zU_n (by decide)).trans ((zU_n (by decide)).trans ((zU_n (by decide)).trans (c1.symm))))))))))) ?_
  refine z_iload4 gi_157_149 ?_
  refine z_iast (e := (cN J) p (4)) gi_157_151 gk_59 (by decide) (by omega) rfl ?_
  refine z_aload0 gi_157_152 ?_
  refine z_getR (r := 60) gi_157_153 gk_50 (hRr _ rm_50_13 (by decide)) ?_
  refine z_aload0 gi_157_156 ?_
  refine z_getI (v := J 29 5) gi_157_157 gk_50 ((zU_n (by decide)).trans ((zU_n (by decide)).trans ((zU_n (by decide)).trans ((zU_x (by decide)).trans ((zU_n (by decide)).trans ((zU_n (by decide)).trans ((zU_n (by decide)).trans ((zU_n (by decide)).trans ((zU_n (by decide)).trans ((zU_n (by decide)).trans ((zU_n (by decide)).trans (c1.symm)))))))))))) ?_
  refine z_iload3 gi_157_160 ?_
  refine z_iast (e := v) gi_157_161 gk_60 (by decide) (by omega) rfl ?_
  refine z_aload0 gi_157_162 ?_
  refine z_dup gi_157_163 rfl ?_
  refine z_getI (v := J 29 5) gi_157_164 gk_50 ((zU_n (by decide)).trans ((zU_n (by decide)).trans ((zU_n (by decide)).trans ((zU_n (by decide)).trans ((zU_x (by decide)).trans ((zU_n (by decide)).trans ((zU_n (by decide)).trans ((zU_n (by decide)).trans ((zU_n (by decide)).trans ((zU_n (by decide)).trans ((zU_n (by decide)).trans ((zU_n (by decide)).trans (c1.symm))))))))))))) ?_
  refine z_pushJ gp_157_167 ?_
  refine z_iadd (e := (J 29 5) + 1) gi_157_168 rfl ?_
  refine z_putI (y := 8) gi_157_169 rfl gk_50 ?_
  refine z_aload0 gi_157_172 ?_
  refine z_iload1 gi_157_173 ?_
  refine z_iload2 gi_157_174 ?_
  refine z_iload3 gi_157_175 ?_
  refine z_callVx (As := [_, _, _]) gi_157_176 rfl gk_50 (Nat.le_of_ble_eq_true rfl) (Nat.le_of_ble_eq_true rfl) (lays_p (n := J 8 2) hRr y2.symm yn hp (by decide) (by omega)) ?_
  show zW _ _ _ _ _ _ _ _ _ _
  refine z_iload4 gi_157_179 ?_
  refine z_iret gi_157_181 gr_157 ?_
  show zW _ _ _ _ _ _ _ _ _ _
  refine z_goto gi_162_24 ?_
  refine z_iret gi_162_28 gr_162 ?_
  refine ⟨?_, ?_⟩
  · first | rfl | exact congrArg (fun v => some (zi v)) (by omega) | (exfalso; omega)
  · have hs := (zK_u (a := 55) (x := p) (v := v) (zK_x (a := 50) (x := 8) (v := (J 29 5) + 1) (zK_x (a := 60) (x := J 29 5) (v := v) (zK_x (a := 59) (x := J 29 5) (v := (cN J) p (4)) (zK_x (a := 58) (x := J 29 5) (v := p) (zK_x (a := 57) (x := J 29 5) (v := 4) (zK_x (a := 50) (x := 9) (v := 0) (zK_u (a := 9) (x := p * 5 + 4) (v := v) (zK_x (a := 29) (x := 6) (v := (J 29 5) + 1) (zK_x (a := 29) (x := 5) (v := (J 29 5) + 1) (zK_x (a := 33) (x := J 29 5) (v := v) (zK_x (a := 32) (x := J 29 5) (v := (cN J) p (4)) (zK_x (a := 31) (x := J 29 5) (v := 4) (zK_x (a := 30) (x := J 29 5) (v := p) (zK_r (k := (kL [30, 31, 32, 33, 57, 58, 59, 60] [(29, 5), (29, 6), (50, 9), (50, 8)])) (A := J)) rfl) rfl) rfl) rfl) rfl) rfl)) rfl) rfl) rfl) rfl) rfl) rfl))
    have hY2 := RelY_k hs (by repeat' constructor) (fun p => by repeat' constructor) (RelY_p (p := p) (w := 4) hY (by omega) (by omega) hf2 (by omega) rfl rfl)
    have hok : zOkc (J 8 2) p (4) ((cN J) p (4)) v := ⟨hV, nf, hf2⟩
    have hk := (zK_x (a := 55) (x := p) (v := v) (zK_x (a := 50) (x := 8) (v := (J 29 5) + 1) (zK_x (a := 60) (x := J 29 5) (v := v) (zK_x (a := 59) (x := J 29 5) (v := (cN J) p (4)) (zK_x (a := 58) (x := J 29 5) (v := p) (zK_x (a := 57) (x := J 29 5) (v := 4) (zK_x (a := 50) (x := 9) (v := 0) (zK_x (a := 9) (x := p * 5 + 4) (v := v) (zK_x (a := 29) (x := 6) (v := (J 29 5) + 1) (zK_x (a := 29) (x := 5) (v := (J 29 5) + 1) (zK_x (a := 33) (x := J 29 5) (v := v) (zK_x (a := 32) (x := J 29 5) (v := (cN J) p (4)) (zK_x (a := 31) (x := J 29 5) (v := 4) (zK_x (a := 30) (x := J 29 5) (v := p) (zK_r (k := (kL [30, 31, 32, 33, 9, 57, 58, 59, 60, 55] [(29, 5), (29, 6), (50, 9), (50, 8)])) (A := J)) rfl) rfl) rfl) rfl) rfl) rfl) rfl) rfl) rfl) rfl) rfl) rfl) rfl) rfl)
    exact ⟨hR, hG, hY2, RelD_k hk (by repeat' constructor) (fun p => by repeat' constructor) hD, RelP_k hk (by repeat' constructor) (fun p => by repeat' constructor) hP, (RelC_mk (K := J) (d := J 29 5) (o := 0) rfl rfl rfl rfl (by omega) (by omega) rfl rfl hC (by omega) (fun i i1 i2 => ⟨⟨by rw [Int.add_zero i]; exact (zU_n (by decide)).trans ((zU_n (by decide)).trans ((zU_n (by decide)).trans ((zU_n (by decide)).trans ((zU_n (by decide)).trans ((zU_n (by decide)).trans ((zU_n (by decide)).trans ((zU_n (by decide)).trans ((zU_n (by decide)).trans ((zU_n (by decide)).trans ((zU_n (by decide)).trans ((zU_n (by decide)).trans ((zU_n (by decide)).trans ((zU_x (by omega)).trans (rfl)))))))))))))), by rw [Int.add_zero i]; exact (zU_n (by decide)).trans ((zU_n (by decide)).trans ((zU_n (by decide)).trans ((zU_n (by decide)).trans ((zU_n (by decide)).trans ((zU_n (by decide)).trans ((zU_n (by decide)).trans ((zU_n (by decide)).trans ((zU_n (by decide)).trans ((zU_n (by decide)).trans ((zU_n (by decide)).trans ((zU_n (by decide)).trans ((zU_x (by omega)).trans ((zU_n (by decide)).trans (rfl)))))))))))))), by rw [Int.add_zero i]; exact (zU_n (by decide)).trans ((zU_n (by decide)).trans ((zU_n (by decide)).trans ((zU_n (by decide)).trans ((zU_n (by decide)).trans ((zU_n (by decide)).trans ((zU_n (by decide)).trans ((zU_n (by decide)).trans ((zU_n (by decide)).trans ((zU_n (by decide)).trans ((zU_n (by decide)).trans ((zU_x (by omega)).trans ((zU_n (by decide)).trans ((zU_n (by decide)).trans (rfl)))))))))))))), by rw [Int.add_zero i]; exact (zU_n (by decide)).trans ((zU_n (by decide)).trans ((zU_n (by decide)).trans ((zU_n (by decide)).trans ((zU_n (by decide)).trans ((zU_n (by decide)).trans ((zU_n (by decide)).trans ((zU_n (by decide)).trans ((zU_n (by decide)).trans ((zU_n (by decide)).trans ((zU_x (by omega)).trans ((zU_n (by decide)).trans ((zU_n (by decide)).trans ((zU_n (by decide)).trans (rfl))))))))))))))⟩, ⟨by rw [Int.add_zero i]; exact (zU_n (by decide)).trans ((zU_n (by decide)).trans ((zU_n (by decide)).trans ((zU_n (by decide)).trans ((zU_x (by omega)).trans ((zU_n (by decide)).trans ((zU_n (by decide)).trans ((zU_n (by decide)).trans ((zU_n (by decide)).trans ((zU_n (by decide)).trans ((zU_n (by decide)).trans ((zU_n (by decide)).trans ((zU_n (by decide)).trans ((zU_n (by decide)).trans (rfl)))))))))))))), by rw [Int.add_zero i]; exact (zU_n (by decide)).trans ((zU_n (by decide)).trans ((zU_n (by decide)).trans ((zU_n (by decide)).trans ((zU_n (by decide)).trans ((zU_x (by omega)).trans ((zU_n (by decide)).trans ((zU_n (by decide)).trans ((zU_n (by decide)).trans ((zU_n (by decide)).trans ((zU_n (by decide)).trans ((zU_n (by decide)).trans ((zU_n (by decide)).trans ((zU_n (by decide)).trans (rfl)))))))))))))), by rw [Int.add_zero i]; exact (zU_n (by decide)).trans ((zU_n (by decide)).trans ((zU_n (by decide)).trans ((zU_x (by omega)).trans ((zU_n (by decide)).trans ((zU_n (by decide)).trans ((zU_n (by decide)).trans ((zU_n (by decide)).trans ((zU_n (by decide)).trans ((zU_n (by decide)).trans ((zU_n (by decide)).trans ((zU_n (by decide)).trans ((zU_n (by decide)).trans ((zU_n (by decide)).trans (rfl)))))))))))))), by rw [Int.add_zero i]; exact (zU_n (by decide)).trans ((zU_n (by decide)).trans ((zU_x (by omega)).trans ((zU_n (by decide)).trans ((zU_n (by decide)).trans ((zU_n (by decide)).trans ((zU_n (by decide)).trans ((zU_n (by decide)).trans ((zU_n (by decide)).trans ((zU_n (by decide)).trans ((zU_n (by decide)).trans ((zU_n (by decide)).trans ((zU_n (by decide)).trans ((zU_n (by decide)).trans (rfl))))))))))))))⟩⟩) ((zU_n (by decide)).trans ((zU_n (by decide)).trans ((zU_n (by decide)).trans ((zU_n (by decide)).trans ((zU_n (by decide)).trans ((zU_n (by decide)).trans ((zU_n (by decide)).trans ((zU_n (by decide)).trans ((zU_n (by decide)).trans ((zU_n (by decide)).trans ((zU_n (by decide)).trans ((zU_n (by decide)).trans ((zU_n (by decide)).trans (zU_e)))))))))))))) ((zU_n (by decide)).trans ((zU_n (by decide)).trans ((zU_n (by decide)).trans ((zU_n (by decide)).trans ((zU_n (by decide)).trans ((zU_n (by decide)).trans ((zU_n (by decide)).trans ((zU_n (by decide)).trans ((zU_n (by decide)).trans ((zU_n (by decide)).trans ((zU_n (by decide)).trans ((zU_n (by decide)).trans (zU_e))))))))))))) ((zU_n (by decide)).trans ((zU_n (by decide)).trans ((zU_n (by decide)).trans ((zU_n (by decide)).trans ((zU_n (by decide)).trans ((zU_n (by decide)).trans ((zU_n (by decide)).trans ((zU_n (by decide)).trans ((zU_n (by decide)).trans ((zU_n (by decide)).trans ((zU_n (by decide)).trans (zU_e)))))))))))) ((zU_n (by decide)).trans ((zU_n (by decide)).trans ((zU_n (by decide)).trans ((zU_n (by decide)).trans ((zU_n (by decide)).trans ((zU_n (by decide)).trans ((zU_n (by decide)).trans ((zU_n (by decide)).trans ((zU_n (by decide)).trans ((zU_n (by decide)).trans (zU_e))))))))))) ((zU_n (by decide)).trans ((zU_n (by decide)).trans ((zU_n (by decide)).trans ((zU_n (by decide)).trans (zU_e))))) ((zU_n (by decide)).trans ((zU_n (by decide)).trans ((zU_n (by decide)).trans ((zU_n (by decide)).trans ((zU_n (by decide)).trans (zU_e)))))) ((zU_n (by decide)).trans ((zU_n (by decide)).trans ((zU_n (by decide)).trans (zU_e)))) ((zU_n (by decide)).trans ((zU_n (by decide)).trans (zU_e))) hok), RelA_k hk (by repeat' constructor) (fun p => by repeat' constructor) hAc, RelS_k hk (zK_r (k := kM)) (fun x j a b => ⟨kL_38 (by decide) (by decide) x j a b, kM_38 x j a b⟩) (fun p => ⟨rfl, rfl, rfl⟩) rfl hS, RelT_k hk (by repeat' constructor) (fun p => by repeat' constructor) hTp, RelX_k hk (by repeat' constructor) (fun p => by repeat' constructor) hX, RelW_k hk ⟨rfl, rfl⟩ trivial hW⟩
