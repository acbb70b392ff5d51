theorem kM_ne {x : Nat} {j : Int} (h : kM x j = true) : x ≠ 22 ∧ x ≠ 73 ∧ x ≠ 74 ∧ x ≠ 86 := by
  refine ⟨fun e => ?_, fun e => ?_, fun e => ?_, fun e => ?_⟩ <;> (subst e; cases h)
theorem st_buy {X : Nat × (Nat → Int32)} {d : Nat} {J M : zA} {R : zR} {n w : Int} (hr : Rel X J M R) (hn : -2147483648 ≤ n ∧ n < 2147483648) (hw : -2147483648 ≤ w ∧ w < 2147483648) : zW X (d + 20) 118 0 (gEn 118 [.ref 0, zi n, zi w]) [] J M R (stP X (d + 20) 214 [zi n, zi w]) := by
  have hr0 := hr
  obtain ⟨hR, hG, hY, hD, hP, hC, hAc, hS, hTp, hX, hW⟩ := hr0
  have hRr : zRoR R := zRoR_of hR
  obtain ⟨y1, y2, y3⟩ := hY
  have h := @buy_c X (d + 14) J M R n w hR (zNn y3) ⟨zN11 y3, zN8 y3, zN9 y3, zN10 y3⟩ hn hw
  refine gW_mono h (fun r σ q => zQ_m (fun r J2 M2 R2 hp => ?_) q)
  obtain ⟨rfl, ⟨x, y, rfl, rfl⟩, rfl⟩ := hp
  refine ⟨_, rfl, ?_⟩
  have e6 : zU J 22 2 x 56 6 = cN J 0 11 := rg_6 (A := J) (J := J) zK_r y1.symm
  have e3 : zU J 22 2 x 56 3 = cN J 0 8 := rg_3 (A := J) (J := J) zK_r y1.symm
  have e4 : zU J 22 2 x 56 4 = cN J 0 9 := rg_4 (A := J) (J := J) zK_r y1.symm
  have e5 : zU J 22 2 x 56 5 = cN J 0 10 := rg_5 (A := J) (J := J) zK_r y1.symm
  have h2 := @buy_r X (d + 15) (zU J 22 2 x) (zU M 22 1 y) _ n w hRr (by rw [e6, e3, e4, e5]; exact ⟨zN11 y3, zN8 y3, zN9 y3, zN10 y3⟩) hn hw
  rw [e6, e3, e4, e5] at h2
  refine gW_mono h2 (fun r σ q => zQ_m (fun r J3 M3 R3 hp => ?_) q)
  obtain ⟨rfl, rfl, hM, rfl⟩ := hp
  refine ⟨rfl, Rel_S (zK_x zK_r rfl) (fun x j hx => ?_) hr⟩
  have n := kM_ne hx
  rw [hM x n.2.1 n.2.2.1]
  exact zU_n n.1
theorem st_waits {X : Nat × (Nat → Int32)} {d : Nat} {J M : zA} {R : zR} {n : Int} (hr : Rel X J M R) (hn : -2147483648 ≤ n ∧ n < 2147483648) : zW X (d + 20) 119 0 (gEn 119 [.ref 0, zi n]) [] J M R (stP X (d + 20) 215 [zi n]) := by
  have hr0 := hr
  obtain ⟨hR, hG, hY, hD, hP, hC, hAc, hS, hTp, hX, hW⟩ := hr0
  have hRr : zRoR R := zRoR_of hR
  obtain ⟨y1, y2, y3⟩ := hY
  have h := @waits_c X (d + 13) J M R n hR (zNn y3) ⟨by omega, zN8 y3, zN9 y3, zN10 y3⟩ hn
  refine gW_mono h (fun r σ q => zQ_m (fun r J2 M2 R2 hp => ?_) q)
  obtain ⟨rfl, ⟨x, y, rfl, rfl⟩, rfl⟩ := hp
  refine ⟨_, rfl, ?_⟩
  have e6 : zU J 22 2 x 56 6 = cN J 0 11 := rg_6 (A := J) (J := J) zK_r y1.symm
  have e3 : zU J 22 2 x 56 3 = cN J 0 8 := rg_3 (A := J) (J := J) zK_r y1.symm
  have e4 : zU J 22 2 x 56 4 = cN J 0 9 := rg_4 (A := J) (J := J) zK_r y1.symm
  have e5 : zU J 22 2 x 56 5 = cN J 0 10 := rg_5 (A := J) (J := J) zK_r y1.symm
  have h2 := @waits_r X (d + 16) (zU J 22 2 x) (zU M 22 1 y) _ n hRr (by rw [e3, e4, e5]; exact ⟨by omega, zN8 y3, zN9 y3, zN10 y3⟩) (by rw [e6]; have := zN11 y3; omega) hn
  rw [e3, e4, e5] at h2
  refine gW_mono h2 (fun r σ q => zQ_m (fun r J3 M3 R3 hp => ?_) q)
  obtain ⟨rfl, rfl, hM, rfl⟩ := hp
  refine ⟨rfl, Rel_S (zK_x zK_r rfl) (fun x j hx => ?_) hr⟩
  have n := kM_ne hx
  rw [hM x n.2.1 n.2.2.1]
  exact zU_n n.1
