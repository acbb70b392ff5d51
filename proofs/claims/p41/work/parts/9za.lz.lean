noncomputable def J0 : zA := fun a x => (gCI_120 a x.toNat).toInt
noncomputable def M0 : zA := fun a x => (gCL_87 a x.toNat).toInt
theorem J0_I : zI J0 = gCI_120 := (zI_of gCI_120).symm
theorem M0_L : zL M0 = gCL_87 := (zL_of gCL_87).symm
theorem T0_ok : Tok T0 := fun _ _ _ _ _ _ => zn_r _
theorem lawC0 {X : Nat × (Nat → Int32)} {A : zA} {R : zR} (h5 : A 1 5 = 0) (r3 : R 1 3 = some 3) (r4 : R 1 4 = some 4) : LawC X A R T0 := by
  refine ⟨3, 4, ⟨r3, r4, Or.inl ⟨rfl, rfl⟩⟩, ?_⟩
  intro d J M h dd k m c p g1 _ _ q1 q2 q3 q4 q5 q6
  show zW _ _ _ _ [some (.ref 1), some (zi h), some (zi dd), some (zi k), some (zi m), some (zi c), some (zi p), none, none, none] _ _ _ _ _
  refine z_aload rfl rfl ?_
  refine z_getI (v := 0) rfl rfl (g1.trans h5) ?_
  refine z_if_neF rfl (by omega) rfl ?_
  refine z_iload rfl rfl ?_
  refine z_iload rfl rfl ?_
  refine z_iload rfl rfl ?_
  refine z_callSP (v := T0 h dd k m c p) (As := [zi h, zi dd, zi c]) rfl rfl (Nat.le_of_ble_eq_true rfl) (Nat.le_of_ble_eq_true rfl) ?_ ?_
  · show zW _ _ _ _ [some (zi h), some (zi dd), some (zi c)] _ _ _ _ _
    refine z_iload rfl rfl ?_
    refine z_if_le rfl q5 (fun g => ?_) (fun g => ?_)
    · refine z_iload rfl rfl ?_
      refine z_if_ne rfl q2 (fun g2 => ?_) (fun g2 => ?_)
      · refine z_pushI (z := 0) rfl rfl ?_
        refine z_iret rfl rfl ⟨?_, rfl, rfl, rfl⟩
        show some (zi 0) = some (zi (zn (if 0 < c then h - dd else if dd = 0 then 1 else 0)))
        rw [zi_zn, if_neg (by omega), if_neg g2]
      · refine z_pushI (z := 1) rfl rfl ?_
        refine z_goto rfl ?_
        refine z_iret rfl rfl ⟨?_, rfl, rfl, rfl⟩
        show some (zi 1) = some (zi (zn (if 0 < c then h - dd else if dd = 0 then 1 else 0)))
        rw [zi_zn, if_neg (by omega), if_pos g2]
    · refine z_iload rfl rfl ?_
      refine z_iload rfl rfl ?_
      refine z_isub (e := h - dd) rfl rfl ?_
      refine z_iret rfl rfl ⟨?_, rfl, rfl, rfl⟩
      show some (zi (h - dd)) = some (zi (zn (if 0 < c then h - dd else if dd = 0 then 1 else 0)))
      rw [zi_zn, if_pos g]
  · refine z_iret rfl rfl ?_
    exact ⟨rfl, zK_r, rfl, rfl⟩
theorem J0_24 (p : Int) : J0 24 p = 0 := rfl
theorem J0_25 (p : Int) : J0 25 p = 0 := rfl
theorem J0_27 (p : Int) : J0 27 p = 0 := rfl
theorem J0_28 (p : Int) : J0 28 p = 0 := rfl
theorem J0_75 (p : Int) : J0 75 p = 0 := rfl
theorem J0_76 (p : Int) : J0 76 p = 0 := rfl
theorem J0_78 (p : Int) : J0 78 p = 0 := rfl
theorem J0_79 (p : Int) : J0 79 p = 0 := rfl
theorem J0_n : J0 8 2 = 0 := by decide +kernel
theorem J0_m : J0 50 1 = 0 := by decide +kernel
theorem Y0 : RelY J0 := by
  have a0 : ∀ (p w : Int), w < 5 → cN J0 p w = 0 := by
    intro p w g
    unfold cN
    rw [J0_n, if_neg (by omega), if_neg (by omega)]
  refine ⟨?_, by decide +kernel, ?_⟩
  · funext p w
    unfold cN rN
    have q : ¬ (0 ≤ w ∧ w < 5 ∧ 0 ≤ p ∧ p < 0) := by omega
    rw [J0_n, J0_m, if_neg q, if_neg q]
    by_cases g : 5 ≤ w ∧ w < 14 ∧ p = 0
    · rw [if_pos g, if_pos g]
      have e : w = 5 ∨ w = 6 ∨ w = 7 ∨ w = 8 ∨ w = 9 ∨ w = 10 ∨ w = 11 ∨ w = 12 ∨ w = 13 := by omega
      rcases e with rfl | rfl | rfl | rfl | rfl | rfl | rfl | rfl | rfl <;> decide +kernel
    · rw [if_neg g, if_neg g]
  · rw [J0_n]
    refine ⟨fun p => ?_, fun p => ?_, fun p => ?_, fun p => ?_, fun p => ?_, ?_, ?_, ?_, ?_, ?_, ?_, ?_, ?_, ?_, by decide⟩
    · rw [a0 p 0 (by decide)]; decide
    · rw [a0 p 1 (by decide)]; decide
    · rw [a0 p 2 (by decide)]; decide
    · rw [a0 p 3 (by decide)]; decide
    · rw [a0 p 4 (by decide)]; decide
    · rw [cN_g (by decide)]; decide +kernel
    · rw [cN_g (by decide)]; decide +kernel
    · rw [cN_g (by decide)]; decide +kernel
    · rw [cN_g (by decide)]; decide +kernel
    · rw [cN_g (by decide)]; decide +kernel
    · rw [cN_g (by decide)]; decide +kernel
    · rw [cN_g (by decide)]; decide +kernel
    · rw [cN_g (by decide)]; decide +kernel
    · rw [cN_g (by decide)]; decide +kernel
theorem D0 : RelD J0 := by
  refine ⟨by decide +kernel, by decide +kernel, by decide +kernel, fun p g1 g2 => ?_, fun p _ _ => ⟨J0_24 p, J0_25 p⟩, fun p _ _ => ⟨?_, ?_⟩⟩
  · rw [J0_n] at g2; exfalso; omega
  · rw [J0_24]; decide
  · rw [J0_25]; decide +kernel
theorem P0 : RelP J0 := by
  refine ⟨by decide +kernel, Or.inl (by decide +kernel), fun g => ?_⟩
  rw [show J0 0 8 = 0 from by decide +kernel] at g
  exact absurd g (by decide)
theorem C0c : RelC J0 := by
  refine ⟨by decide +kernel, by decide +kernel, by decide +kernel, by decide +kernel, by decide +kernel, fun i g1 g2 => ?_⟩
  rw [show J0 29 6 = 0 from by decide +kernel] at g2
  exfalso; omega
theorem A0 : RelA J0 := by
  refine ⟨by decide +kernel, by decide +kernel, by decide +kernel, by decide +kernel, fun i g1 g2 => ?_, fun i g1 g2 => ?_⟩
  · rw [show J0 34 1 = 0 from by decide +kernel] at g2
    exfalso; omega
  · rw [show J0 34 3 = 0 from by decide +kernel] at g2
    exfalso; omega
theorem S0 : RelS J0 M0 := by
  intro s g1 g2
  have e : s = 0 ∨ s = 1 ∨ s = 2 ∨ s = 3 ∨ s = 4 ∨ s = 5 := by omega
  rcases e with rfl | rfl | rfl | rfl | rfl | rfl
  · refine ⟨by decide +kernel, by decide +kernel, by decide +kernel, by decide +kernel, fun g => ?_, fun g => ?_⟩
    · exact absurd (show J0 38 0 = 1 from g) (by decide +kernel)
    · exact absurd (show J0 38 0 = 2 from g) (by decide +kernel)
  · refine ⟨by decide +kernel, by decide +kernel, by decide +kernel, by decide +kernel, fun g => ?_, fun g => ?_⟩
    · exact absurd (show J0 40 0 = 1 from g) (by decide +kernel)
    · exact absurd (show J0 40 0 = 2 from g) (by decide +kernel)
  · refine ⟨by decide +kernel, by decide +kernel, by decide +kernel, by decide +kernel, fun g => ?_, fun g => ?_⟩
    · exact absurd (show J0 42 0 = 1 from g) (by decide +kernel)
    · exact absurd (show J0 42 0 = 2 from g) (by decide +kernel)
  · refine ⟨by decide +kernel, by decide +kernel, by decide +kernel, by decide +kernel, fun g => ?_, fun g => ?_⟩
    · exact absurd (show J0 44 0 = 1 from g) (by decide +kernel)
    · exact absurd (show J0 44 0 = 2 from g) (by decide +kernel)
  · refine ⟨by decide +kernel, by decide +kernel, by decide +kernel, by decide +kernel, fun g => ?_, fun g => ?_⟩
    · exact absurd (show J0 46 0 = 1 from g) (by decide +kernel)
    · exact absurd (show J0 46 0 = 2 from g) (by decide +kernel)
  · refine ⟨by decide +kernel, by decide +kernel, by decide +kernel, by decide +kernel, fun g => ?_, fun g => ?_⟩
    · exact absurd (show J0 48 0 = 1 from g) (by decide +kernel)
    · exact absurd (show J0 48 0 = 2 from g) (by decide +kernel)
theorem Tp0 : RelT J0 := by
  refine ⟨by decide +kernel, by decide +kernel, fun i g1 g2 => ?_⟩
  rw [show J0 1 1 = 0 from by decide +kernel] at g2
  exfalso; omega
theorem Rel0 (X : Nat × (Nat → Int32)) : Rel X J0 M0 gCR_181 :=
  ⟨show ∀ q ∈ zFR, gCR_181 q.1 q.2.1 = some q.2.2 by decide +kernel, Or.inl (by decide +kernel), Y0, D0, P0, C0c, A0, S0, Tp0, ⟨T0, T0_ok, lawC0 (by decide +kernel) (by decide +kernel) (by decide +kernel), Or.inl ⟨by decide +kernel, rfl⟩⟩, by decide +kernel, by decide +kernel⟩
theorem gAll (X : Nat × (Nat → Int32)) (hX : X.1 ≤ 3072) : gW X 300 257 0 87 3622 (gEn 257 [.ref 1000]) [] gM0 (fun r _ => r = some (.int 1)) := by
  show gW X 300 257 0 87 3622 [some (.ref 1000), none, none, none] [] (gK 0, gCI_0, gCL_0, gCR_0) _
  refine w_newN (K2 := gK 1) (a := 0) (m2 := 86) (n2 := 3610) rfl rfl rfl (by decide) (by decide) (by decide) ?_
  refine w_dup rfl rfl ?_
  refine w_callN (d := 299) (As := []) (m1 := 49) (m2 := 1697) (c2 := 37) (s2 := 1913) rfl rfl (by decide) (by decide) (by decide) (by decide) (ct_X10 (d := 296)) ?_
  refine w_astore rfl rfl ?_
  refine w_newN (K2 := gK 51) (a := 50) (m2 := 36) (n2 := 1851) rfl rfl rfl (by decide) (by decide) (by decide) ?_
  refine w_dup rfl rfl ?_
  refine w_callN (d := 299) (As := []) (m1 := 36) (m2 := 1851) (c2 := 0) (s2 := 0) rfl rfl (by decide) (by decide) (by decide) (by decide) (ct_X11 (d := 297)) ?_
  refine w_astore rfl rfl ?_
  refine w_pushI rfl ?_
  refine w_istore rfl rfl ?_
  have e := la_loop (X := X) (d := 100) (P := fun r _ _ _ => r = some (.int 1)) (by omega) (fun _ _ _ => rfl) (X.1 + 1) 0 J0 M0 gCR_181 ⟨by omega, by omega⟩ (by omega) (Rel0 X)
  unfold zW at e
  rw [J0_I, M0_L] at e
  exact gW_mono e (fun r σ q => by
    obtain ⟨_, _, _, _, h⟩ := q
    exact h)
