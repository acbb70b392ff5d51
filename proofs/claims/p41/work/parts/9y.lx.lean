noncomputable def tpc (J : zA) (i : Int) : Int := if 0 ≤ i ∧ i < J 1 1 then J 2 i else -1
theorem kL_sub {cs cs2 : List Nat} {fs fs2 : List (Nat × Int)} (h1 : ∀ c ∈ cs2, c ∈ cs) (h2 : ∀ e ∈ fs2, e ∈ fs) : ∀ x j, kL cs fs x j = true → kL cs2 fs2 x j = true := by
  intro x j h
  unfold kL at h ⊢
  simp only [Bool.not_eq_true', Bool.or_eq_false_iff, List.any_eq_false, Bool.and_eq_true] at h ⊢
  exact ⟨fun c hc => h.1 c (h1 c hc), fun e he => h.2 e (h2 e he)⟩
theorem st_law {X : Nat × (Nat → Int32)} {d : Nat} {J M : zA} {R : zR} (hr : Rel X J M R) : zW X (d + 150) 107 0 (gEn 107 [.ref 0]) [] J M R (stP X (d + 150) 182 []) := by
  have hr0 := hr
  obtain ⟨hR, hG, hY, hD, hP, hC, hAc, hS, hTp, hX, hW⟩ := hr0
  obtain ⟨t1, t2, t3⟩ := hTp
  have hc : ∀ i, 0 ≤ i → i < J 1 1 → J 2 i = tpc J i := fun i a b => by
    unfold tpc
    rw [if_pos ⟨a, b⟩]
  have htp : ∀ i, 0 ≤ i → i < J 1 1 → J 61 i = zb (tpc J i) := fun i a b => by
    rw [← hc i a b]
    exact (t3 i a b).2
  have ht : tp (tpc J) (J 1 1) := ⟨t2, fun i a b => by rw [← hc i a b]; exact (t3 i a b).1, fun i a => by unfold tpc; rw [if_neg (by omega)]⟩
  show zW _ _ _ _ [some (.ref 0)] _ _ _ _ _
  refine z_aload rfl rfl ?_
  refine z_getR (r := 1) rfl rfl (hR _ rm_0_0) ?_
  refine z_callV (As := []) (stP X (d + 150) 182 []) rfl rfl rfl (Nat.le_of_ble_eq_true rfl) (Nat.le_of_ble_eq_true rfl) ?_ (fun r J2 M2 R2 h => by
    obtain ⟨v, rfl, h⟩ := h
    exact z_iret rfl rfl ⟨v, rfl, h⟩)
  rcases hG with ⟨g3, g4, g6, g7⟩ | ⟨g3, g4, g6, g7⟩
  · refine tka (d := d + 29) g3 g4 g6 g7 hR (c := tpc J) (f := J 1 1) rfl hc ht (fun x1 J2 k2 hl => ?_) (fun x1 J2 k2 => ?_)
    · refine ⟨1, rfl, ?_⟩
      have kA : zK (kL [5, 6] [(1, 2), (1, 8), (1, 5), (1, 1)]) J (zU (zU J2 1 5 (0 + ((tcs (pT (tpc J) (J 1 1) 121 0).2.2).length : Int))) 1 1 0) := zK_x (a := 1) (x := 1) (v := 0) (zK_x (a := 1) (x := 5) (v := (0 + ((tcs (pT (tpc J) (J 1 1) 121 0).2.2).length : Int))) (zK_m k2 (kL_sub (by decide) (by decide))) rfl) rfl
      refine lawR_k (d := d + 30) (zRoR_of (zRok_sw hR)) (c := tpc J) (f := J 1 1) ((kA 50 15 rfl).trans t1.symm) (fun i a b => (kA 61 i rfl).trans (htp i a b)) ht (fun y1 J3 k3 e15 e64 el el2 => ?_) (fun y1 => absurd (x1.symm.trans y1) (by decide))
      have hk : zK (kL [5, 6, 62, 63, 64, 65, 66] [(1, 2), (1, 8), (1, 5), (1, 1), (50, 16), (50, 17), (50, 18), (50, 19), (50, 15), (50, 27)]) J (zU J3 50 27 1) := zK_x (a := 50) (x := 27) (v := 1) (zK_t (zK_m kA (kL_sub (by decide) (by decide))) (zK_m k3 (kL_sub (by decide) (by decide)))) rfl
      have z1 : (zU J3 50 27 1) 1 1 = 0 := (zU_n (by decide)).trans ((k3 1 1 rfl).trans zU_e)
      have z2 : (zU J3 50 27 1) 50 15 = 0 := (zU_x (by decide)).trans e15
      have pg := (pT_g ht 121 0 (by omega)).2 x1
      have pl := pT_len ht 121 0 (by omega) x1
      have hN : (zU J3 50 27 1) 1 5 = ((tcs (pT (tpc J) (J 1 1) 121 0).2.2).length : Int) := (zU_n (by decide)).trans ((k3 1 5 rfl).trans ((zU_x (by decide)).trans (zU_e.trans (by omega))))
      have hl2 : lay (zU J3 50 27 1) 5 6 0 (tcs (pT (tpc J) (J 1 1) 121 0).2.2) := lay_eq (fun j => (zU_n (by decide)).trans ((k3 5 j rfl).trans ((zU_n (by decide)).trans (zU_n (by decide))))) (fun j => (zU_n (by decide)).trans ((k3 6 j rfl).trans ((zU_n (by decide)).trans (zU_n (by decide))))) _ 0 hl
      have el3 : lnl (zU J3 50 27 1) 0 0 0 0 (pT (tpc J) (J 1 1) 121 0).2.2 := lnl_keep _ 0 0 el (fun j _ => ⟨zU_n (by decide), zU_n (by decide)⟩) (fun j _ => ⟨zU_n (by decide), zU_n (by decide)⟩)
      refine ⟨rfl, zRok_sw hR, Or.inr ⟨rfl, rfl, rfl, rfl⟩, RelY_k hk (by repeat' constructor) (fun p => by repeat' constructor) hY, RelD_k hk (by repeat' constructor) (fun p => by repeat' constructor) hD, RelP_k hk (by repeat' constructor) (fun p => by repeat' constructor) hP, RelC_k hk (by repeat' constructor) (fun p => by repeat' constructor) hC, RelA_k hk (by repeat' constructor) (fun p => by repeat' constructor) hAc, RelS_k hk (zK_r (k := kM)) (fun x j a b => ⟨kL_38 (by decide) (by decide) x j a b, kM_38 x j a b⟩) (fun p => ⟨rfl, rfl, rfl⟩) rfl hS, ⟨z1.trans z2.symm, ⟨by omega, by omega⟩, fun i a b => by exfalso; omega⟩, ⟨lawT (pT (tpc J) (J 1 1) 121 0).2.2, lawT_ok _, lawCa rfl rfl (zRok_sw hR) pg.1 pg.2 hN hl2 (by omega), Or.inr ⟨zU_e, lawG el3 ((zU_n (by decide)).trans e64) el2.1 el2.2 pg.1⟩⟩, RelW_k hk ⟨rfl, rfl⟩ trivial hW⟩
    · refine ⟨_, rfl, ?_⟩
      have kA : zK (kL [5, 6] [(1, 2), (1, 8), (1, 1)]) J (zU J2 1 1 0) := zK_x (a := 1) (x := 1) (v := 0) (zK_m k2 (kL_sub (by decide) (by decide))) rfl
      refine lawR_k (d := d + 30) (zRoR_of hR) (c := tpc J) (f := J 1 1) ((kA 50 15 rfl).trans t1.symm) (fun i a b => (kA 61 i rfl).trans (htp i a b)) ht (fun y1 => absurd (x1.symm.trans y1) (by decide)) (fun y1 J3 k3 e15 e64 e2 e5 => ?_)
      have hk : zK (kL [5, 6, 62, 63, 64, 65, 66] [(1, 2), (1, 8), (1, 1), (50, 16), (50, 17), (50, 18), (50, 19), (50, 15)]) J J3 := zK_t (zK_m kA (kL_sub (by decide) (by decide))) (zK_m k3 (kL_sub (by decide) (by decide)))
      have z1 : J3 1 1 = 0 := (k3 1 1 rfl).trans zU_e
      obtain ⟨T, tk, lc, lr⟩ := hX
      refine ⟨rfl, hR, Or.inl ⟨g3, g4, g6, g7⟩, RelY_k hk (by repeat' constructor) (fun p => by repeat' constructor) hY, RelD_k hk (by repeat' constructor) (fun p => by repeat' constructor) hD, RelP_k hk (by repeat' constructor) (fun p => by repeat' constructor) hP, RelC_k hk (by repeat' constructor) (fun p => by repeat' constructor) hC, RelA_k hk (by repeat' constructor) (fun p => by repeat' constructor) hAc, RelS_k hk (zK_r (k := kM)) (fun x j a b => ⟨kL_38 (by decide) (by decide) x j a b, kM_38 x j a b⟩) (fun p => ⟨rfl, rfl, rfl⟩) rfl hS, ⟨z1.trans e15.symm, ⟨by omega, by omega⟩, fun i a b => by exfalso; omega⟩, ⟨T, tk, LawC_B lc g3 g4 (hk 1 5 rfl) (fun j => hk 3 j rfl) (fun j => hk 4 j rfl), LawR_B lr (hk 50 27 rfl) (e64.trans (kA 64 0 rfl)) (fun j h => ⟨(e2 j h).1.trans (kA 62 j rfl), (e2 j h).2.trans (kA 63 j rfl)⟩) (fun j h => ⟨(e5 j h).1.trans (kA 65 j rfl), (e5 j h).2.trans (kA 66 j rfl)⟩)⟩, RelW_k hk ⟨rfl, rfl⟩ trivial hW⟩
  · refine tkb (d := d + 29) g3 g4 g6 g7 hR (c := tpc J) (f := J 1 1) rfl hc ht (fun x1 J2 k2 hl => ?_) (fun x1 J2 k2 => ?_)
    · refine ⟨1, rfl, ?_⟩
      have kA : zK (kL [3, 4] [(1, 2), (1, 8), (1, 5), (1, 1)]) J (zU (zU J2 1 5 (0 + ((tcs (pT (tpc J) (J 1 1) 121 0).2.2).length : Int))) 1 1 0) := zK_x (a := 1) (x := 1) (v := 0) (zK_x (a := 1) (x := 5) (v := (0 + ((tcs (pT (tpc J) (J 1 1) 121 0).2.2).length : Int))) (zK_m k2 (kL_sub (by decide) (by decide))) rfl) rfl
      refine lawR_k (d := d + 30) (zRoR_of (zRok_sw hR)) (c := tpc J) (f := J 1 1) ((kA 50 15 rfl).trans t1.symm) (fun i a b => (kA 61 i rfl).trans (htp i a b)) ht (fun y1 J3 k3 e15 e64 el el2 => ?_) (fun y1 => absurd (x1.symm.trans y1) (by decide))
      have hk : zK (kL [3, 4, 62, 63, 64, 65, 66] [(1, 2), (1, 8), (1, 5), (1, 1), (50, 16), (50, 17), (50, 18), (50, 19), (50, 15), (50, 27)]) J (zU J3 50 27 1) := zK_x (a := 50) (x := 27) (v := 1) (zK_t (zK_m kA (kL_sub (by decide) (by decide))) (zK_m k3 (kL_sub (by decide) (by decide)))) rfl
      have z1 : (zU J3 50 27 1) 1 1 = 0 := (zU_n (by decide)).trans ((k3 1 1 rfl).trans zU_e)
      have z2 : (zU J3 50 27 1) 50 15 = 0 := (zU_x (by decide)).trans e15
      have pg := (pT_g ht 121 0 (by omega)).2 x1
      have pl := pT_len ht 121 0 (by omega) x1
      have hN : (zU J3 50 27 1) 1 5 = ((tcs (pT (tpc J) (J 1 1) 121 0).2.2).length : Int) := (zU_n (by decide)).trans ((k3 1 5 rfl).trans ((zU_x (by decide)).trans (zU_e.trans (by omega))))
      have hl2 : lay (zU J3 50 27 1) 3 4 0 (tcs (pT (tpc J) (J 1 1) 121 0).2.2) := lay_eq (fun j => (zU_n (by decide)).trans ((k3 3 j rfl).trans ((zU_n (by decide)).trans (zU_n (by decide))))) (fun j => (zU_n (by decide)).trans ((k3 4 j rfl).trans ((zU_n (by decide)).trans (zU_n (by decide))))) _ 0 hl
      have el3 : lnl (zU J3 50 27 1) 0 0 0 0 (pT (tpc J) (J 1 1) 121 0).2.2 := lnl_keep _ 0 0 el (fun j _ => ⟨zU_n (by decide), zU_n (by decide)⟩) (fun j _ => ⟨zU_n (by decide), zU_n (by decide)⟩)
      refine ⟨rfl, zRok_sw hR, Or.inl ⟨rfl, rfl, rfl, rfl⟩, RelY_k hk (by repeat' constructor) (fun p => by repeat' constructor) hY, RelD_k hk (by repeat' constructor) (fun p => by repeat' constructor) hD, RelP_k hk (by repeat' constructor) (fun p => by repeat' constructor) hP, RelC_k hk (by repeat' constructor) (fun p => by repeat' constructor) hC, RelA_k hk (by repeat' constructor) (fun p => by repeat' constructor) hAc, RelS_k hk (zK_r (k := kM)) (fun x j a b => ⟨kL_38 (by decide) (by decide) x j a b, kM_38 x j a b⟩) (fun p => ⟨rfl, rfl, rfl⟩) rfl hS, ⟨z1.trans z2.symm, ⟨by omega, by omega⟩, fun i a b => by exfalso; omega⟩, ⟨lawT (pT (tpc J) (J 1 1) 121 0).2.2, lawT_ok _, lawCb rfl rfl (zRok_sw hR) pg.1 pg.2 hN hl2 (by omega), Or.inr ⟨zU_e, lawG el3 ((zU_n (by decide)).trans e64) el2.1 el2.2 pg.1⟩⟩, RelW_k hk ⟨rfl, rfl⟩ trivial hW⟩
    · refine ⟨_, rfl, ?_⟩
      have kA : zK (kL [3, 4] [(1, 2), (1, 8), (1, 1)]) J (zU J2 1 1 0) := zK_x (a := 1) (x := 1) (v := 0) (zK_m k2 (kL_sub (by decide) (by decide))) rfl
      refine lawR_k (d := d + 30) (zRoR_of hR) (c := tpc J) (f := J 1 1) ((kA 50 15 rfl).trans t1.symm) (fun i a b => (kA 61 i rfl).trans (htp i a b)) ht (fun y1 => absurd (x1.symm.trans y1) (by decide)) (fun y1 J3 k3 e15 e64 e2 e5 => ?_)
      have hk : zK (kL [3, 4, 62, 63, 64, 65, 66] [(1, 2), (1, 8), (1, 1), (50, 16), (50, 17), (50, 18), (50, 19), (50, 15)]) J J3 := zK_t (zK_m kA (kL_sub (by decide) (by decide))) (zK_m k3 (kL_sub (by decide) (by decide)))
      have z1 : J3 1 1 = 0 := (k3 1 1 rfl).trans zU_e
      obtain ⟨T, tk, lc, lr⟩ := hX
      refine ⟨rfl, hR, Or.inr ⟨g3, g4, g6, g7⟩, RelY_k hk (by repeat' constructor) (fun p => by repeat' constructor) hY, RelD_k hk (by repeat' constructor) (fun p => by repeat' constructor) hD, RelP_k hk (by repeat' constructor) (fun p => by repeat' constructor) hP, RelC_k hk (by repeat' constructor) (fun p => by repeat' constructor) hC, RelA_k hk (by repeat' constructor) (fun p => by repeat' constructor) hAc, RelS_k hk (zK_r (k := kM)) (fun x j a b => ⟨kL_38 (by decide) (by decide) x j a b, kM_38 x j a b⟩) (fun p => ⟨rfl, rfl, rfl⟩) rfl hS, ⟨z1.trans e15.symm, ⟨by omega, by omega⟩, fun i a b => by exfalso; omega⟩, ⟨T, tk, LawC_B lc g3 g4 (hk 1 5 rfl) (fun j => hk 5 j rfl) (fun j => hk 6 j rfl), LawR_B lr (hk 50 27 rfl) (e64.trans (kA 64 0 rfl)) (fun j h => ⟨(e2 j h).1.trans (kA 62 j rfl), (e2 j h).2.trans (kA 63 j rfl)⟩) (fun j h => ⟨(e5 j h).1.trans (kA 65 j rfl), (e5 j h).2.trans (kA 66 j rfl)⟩)⟩, RelW_k hk ⟨rfl, rfl⟩ trivial hW⟩
