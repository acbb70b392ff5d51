noncomputable def zFR : List (Nat × Nat × Nat) := [(0, 0, 1), (0, 1, 8), (0, 2, 10), (0, 3, 18), (0, 4, 21), (0, 5, 22), (0, 6, 23), (0, 7, 26), (0, 9, 29), (0, 10, 34), (0, 11, 37), (1, 0, 2), (1, 9, 7), (8, 0, 1), (8, 1, 9), (10, 0, 8), (10, 1, 11), (10, 2, 12), (10, 3, 13), (10, 4, 14), (10, 5, 15), (10, 6, 16), (10, 7, 17), (18, 0, 8), (18, 1, 19), (18, 2, 20), (21, 0, 8), (21, 1, 10), (22, 0, 8), (23, 0, 8), (23, 1, 24), (23, 2, 25), (26, 0, 8), (26, 1, 27), (26, 2, 28), (29, 0, 8), (29, 1, 30), (29, 2, 31), (29, 3, 32), (29, 4, 33), (34, 0, 35), (34, 2, 36), (37, 0, 38), (37, 1, 40), (37, 2, 42), (37, 3, 44), (37, 4, 46), (37, 5, 48), (38, 4, 39), (40, 4, 41), (42, 4, 43), (44, 4, 45), (46, 4, 47), (48, 4, 49), (50, 2, 51), (50, 3, 52), (50, 4, 53), (50, 5, 54), (50, 6, 55), (50, 7, 56), (50, 10, 57), (50, 11, 58), (50, 12, 59), (50, 13, 60), (50, 14, 61), (50, 20, 62), (50, 21, 63), (50, 22, 64), (50, 23, 65), (50, 24, 66), (50, 25, 67), (50, 26, 68), (50, 28, 69), (50, 29, 70), (50, 36, 71), (50, 37, 72), (50, 39, 73), (50, 40, 74), (50, 42, 75), (50, 43, 76), (50, 46, 77), (50, 51, 78), (50, 52, 79), (50, 53, 80), (50, 55, 81), (50, 57, 82), (50, 58, 83), (50, 59, 84), (50, 60, 85), (50, 61, 86)]
/-- the references that never change -/
def zRok (R : zR) : Prop := ∀ q ∈ zFR, R q.1 q.2.1 = some q.2.2
/-- those of the reference -/
def zRoR (R : zR) : Prop := ∀ q ∈ zFR, 50 ≤ q.1 → R q.1 q.2.1 = some q.2.2
theorem zRoR_of {R : zR} (h : zRok R) : zRoR R := fun q hq _ => h q hq
theorem zRoR_fr {R R2 : zR} (h : zRok R) (hf : ∀ x, 50 ≤ x → R2 x = R x) : zRoR R2 := fun q hq h5 => by rw [hf _ h5]; exact h q hq
theorem rm_0_0 : ((0, 0, 1) : Nat × Nat × Nat) ∈ zFR := List.mem_of_getElem? (i := 0) rfl
theorem rm_0_1 : ((0, 1, 8) : Nat × Nat × Nat) ∈ zFR := List.mem_of_getElem? (i := 1) rfl
theorem rm_0_2 : ((0, 2, 10) : Nat × Nat × Nat) ∈ zFR := List.mem_of_getElem? (i := 2) rfl
theorem rm_0_3 : ((0, 3, 18) : Nat × Nat × Nat) ∈ zFR := List.mem_of_getElem? (i := 3) rfl
theorem rm_0_4 : ((0, 4, 21) : Nat × Nat × Nat) ∈ zFR := List.mem_of_getElem? (i := 4) rfl
theorem rm_0_5 : ((0, 5, 22) : Nat × Nat × Nat) ∈ zFR := List.mem_of_getElem? (i := 5) rfl
theorem rm_0_6 : ((0, 6, 23) : Nat × Nat × Nat) ∈ zFR := List.mem_of_getElem? (i := 6) rfl
theorem rm_0_7 : ((0, 7, 26) : Nat × Nat × Nat) ∈ zFR := List.mem_of_getElem? (i := 7) rfl
theorem rm_0_9 : ((0, 9, 29) : Nat × Nat × Nat) ∈ zFR := List.mem_of_getElem? (i := 8) rfl
theorem rm_0_10 : ((0, 10, 34) : Nat × Nat × Nat) ∈ zFR := List.mem_of_getElem? (i := 9) rfl
theorem rm_0_11 : ((0, 11, 37) : Nat × Nat × Nat) ∈ zFR := List.mem_of_getElem? (i := 10) rfl
theorem rm_1_0 : ((1, 0, 2) : Nat × Nat × Nat) ∈ zFR := List.mem_of_getElem? (i := 11) rfl
theorem rm_1_9 : ((1, 9, 7) : Nat × Nat × Nat) ∈ zFR := List.mem_of_getElem? (i := 12) rfl
theorem rm_8_0 : ((8, 0, 1) : Nat × Nat × Nat) ∈ zFR := List.mem_of_getElem? (i := 13) rfl
theorem rm_8_1 : ((8, 1, 9) : Nat × Nat × Nat) ∈ zFR := List.mem_of_getElem? (i := 14) rfl
theorem rm_10_0 : ((10, 0, 8) : Nat × Nat × Nat) ∈ zFR := List.mem_of_getElem? (i := 15) rfl
theorem rm_10_1 : ((10, 1, 11) : Nat × Nat × Nat) ∈ zFR := List.mem_of_getElem? (i := 16) rfl
theorem rm_10_2 : ((10, 2, 12) : Nat × Nat × Nat) ∈ zFR := List.mem_of_getElem? (i := 17) rfl
theorem rm_10_3 : ((10, 3, 13) : Nat × Nat × Nat) ∈ zFR := List.mem_of_getElem? (i := 18) rfl
theorem rm_10_4 : ((10, 4, 14) : Nat × Nat × Nat) ∈ zFR := List.mem_of_getElem? (i := 19) rfl
theorem rm_10_5 : ((10, 5, 15) : Nat × Nat × Nat) ∈ zFR := List.mem_of_getElem? (i := 20) rfl
theorem rm_10_6 : ((10, 6, 16) : Nat × Nat × Nat) ∈ zFR := List.mem_of_getElem? (i := 21) rfl
theorem rm_10_7 : ((10, 7, 17) : Nat × Nat × Nat) ∈ zFR := List.mem_of_getElem? (i := 22) rfl
theorem rm_18_0 : ((18, 0, 8) : Nat × Nat × Nat) ∈ zFR := List.mem_of_getElem? (i := 23) rfl
theorem rm_18_1 : ((18, 1, 19) : Nat × Nat × Nat) ∈ zFR := List.mem_of_getElem? (i := 24) rfl
theorem rm_18_2 : ((18, 2, 20) : Nat × Nat × Nat) ∈ zFR := List.mem_of_getElem? (i := 25) rfl
theorem rm_21_0 : ((21, 0, 8) : Nat × Nat × Nat) ∈ zFR := List.mem_of_getElem? (i := 26) rfl
theorem rm_21_1 : ((21, 1, 10) : Nat × Nat × Nat) ∈ zFR := List.mem_of_getElem? (i := 27) rfl
theorem rm_22_0 : ((22, 0, 8) : Nat × Nat × Nat) ∈ zFR := List.mem_of_getElem? (i := 28) rfl
theorem rm_23_0 : ((23, 0, 8) : Nat × Nat × Nat) ∈ zFR := List.mem_of_getElem? (i := 29) rfl
theorem rm_23_1 : ((23, 1, 24) : Nat × Nat × Nat) ∈ zFR := List.mem_of_getElem? (i := 30) rfl
theorem rm_23_2 : ((23, 2, 25) : Nat × Nat × Nat) ∈ zFR := List.mem_of_getElem? (i := 31) rfl
theorem rm_26_0 : ((26, 0, 8) : Nat × Nat × Nat) ∈ zFR := List.mem_of_getElem? (i := 32) rfl
theorem rm_26_1 : ((26, 1, 27) : Nat × Nat × Nat) ∈ zFR := List.mem_of_getElem? (i := 33) rfl
theorem rm_26_2 : ((26, 2, 28) : Nat × Nat × Nat) ∈ zFR := List.mem_of_getElem? (i := 34) rfl
theorem rm_29_0 : ((29, 0, 8) : Nat × Nat × Nat) ∈ zFR := List.mem_of_getElem? (i := 35) rfl
theorem rm_29_1 : ((29, 1, 30) : Nat × Nat × Nat) ∈ zFR := List.mem_of_getElem? (i := 36) rfl
theorem rm_29_2 : ((29, 2, 31) : Nat × Nat × Nat) ∈ zFR := List.mem_of_getElem? (i := 37) rfl
theorem rm_29_3 : ((29, 3, 32) : Nat × Nat × Nat) ∈ zFR := List.mem_of_getElem? (i := 38) rfl
theorem rm_29_4 : ((29, 4, 33) : Nat × Nat × Nat) ∈ zFR := List.mem_of_getElem? (i := 39) rfl
theorem rm_34_0 : ((34, 0, 35) : Nat × Nat × Nat) ∈ zFR := List.mem_of_getElem? (i := 40) rfl
theorem rm_34_2 : ((34, 2, 36) : Nat × Nat × Nat) ∈ zFR := List.mem_of_getElem? (i := 41) rfl
theorem rm_37_0 : ((37, 0, 38) : Nat × Nat × Nat) ∈ zFR := List.mem_of_getElem? (i := 42) rfl
theorem rm_37_1 : ((37, 1, 40) : Nat × Nat × Nat) ∈ zFR := List.mem_of_getElem? (i := 43) rfl
theorem rm_37_2 : ((37, 2, 42) : Nat × Nat × Nat) ∈ zFR := List.mem_of_getElem? (i := 44) rfl
theorem rm_37_3 : ((37, 3, 44) : Nat × Nat × Nat) ∈ zFR := List.mem_of_getElem? (i := 45) rfl
theorem rm_37_4 : ((37, 4, 46) : Nat × Nat × Nat) ∈ zFR := List.mem_of_getElem? (i := 46) rfl
theorem rm_37_5 : ((37, 5, 48) : Nat × Nat × Nat) ∈ zFR := List.mem_of_getElem? (i := 47) rfl
theorem rm_38_4 : ((38, 4, 39) : Nat × Nat × Nat) ∈ zFR := List.mem_of_getElem? (i := 48) rfl
theorem rm_40_4 : ((40, 4, 41) : Nat × Nat × Nat) ∈ zFR := List.mem_of_getElem? (i := 49) rfl
theorem rm_42_4 : ((42, 4, 43) : Nat × Nat × Nat) ∈ zFR := List.mem_of_getElem? (i := 50) rfl
theorem rm_44_4 : ((44, 4, 45) : Nat × Nat × Nat) ∈ zFR := List.mem_of_getElem? (i := 51) rfl
theorem rm_46_4 : ((46, 4, 47) : Nat × Nat × Nat) ∈ zFR := List.mem_of_getElem? (i := 52) rfl
theorem rm_48_4 : ((48, 4, 49) : Nat × Nat × Nat) ∈ zFR := List.mem_of_getElem? (i := 53) rfl
theorem rm_50_2 : ((50, 2, 51) : Nat × Nat × Nat) ∈ zFR := List.mem_of_getElem? (i := 54) rfl
theorem rm_50_3 : ((50, 3, 52) : Nat × Nat × Nat) ∈ zFR := List.mem_of_getElem? (i := 55) rfl
theorem rm_50_4 : ((50, 4, 53) : Nat × Nat × Nat) ∈ zFR := List.mem_of_getElem? (i := 56) rfl
theorem rm_50_5 : ((50, 5, 54) : Nat × Nat × Nat) ∈ zFR := List.mem_of_getElem? (i := 57) rfl
theorem rm_50_6 : ((50, 6, 55) : Nat × Nat × Nat) ∈ zFR := List.mem_of_getElem? (i := 58) rfl
theorem rm_50_7 : ((50, 7, 56) : Nat × Nat × Nat) ∈ zFR := List.mem_of_getElem? (i := 59) rfl
theorem rm_50_10 : ((50, 10, 57) : Nat × Nat × Nat) ∈ zFR := List.mem_of_getElem? (i := 60) rfl
theorem rm_50_11 : ((50, 11, 58) : Nat × Nat × Nat) ∈ zFR := List.mem_of_getElem? (i := 61) rfl
theorem rm_50_12 : ((50, 12, 59) : Nat × Nat × Nat) ∈ zFR := List.mem_of_getElem? (i := 62) rfl
theorem rm_50_13 : ((50, 13, 60) : Nat × Nat × Nat) ∈ zFR := List.mem_of_getElem? (i := 63) rfl
theorem rm_50_14 : ((50, 14, 61) : Nat × Nat × Nat) ∈ zFR := List.mem_of_getElem? (i := 64) rfl
theorem rm_50_20 : ((50, 20, 62) : Nat × Nat × Nat) ∈ zFR := List.mem_of_getElem? (i := 65) rfl
theorem rm_50_21 : ((50, 21, 63) : Nat × Nat × Nat) ∈ zFR := List.mem_of_getElem? (i := 66) rfl
theorem rm_50_22 : ((50, 22, 64) : Nat × Nat × Nat) ∈ zFR := List.mem_of_getElem? (i := 67) rfl
theorem rm_50_23 : ((50, 23, 65) : Nat × Nat × Nat) ∈ zFR := List.mem_of_getElem? (i := 68) rfl
theorem rm_50_24 : ((50, 24, 66) : Nat × Nat × Nat) ∈ zFR := List.mem_of_getElem? (i := 69) rfl
theorem rm_50_25 : ((50, 25, 67) : Nat × Nat × Nat) ∈ zFR := List.mem_of_getElem? (i := 70) rfl
theorem rm_50_26 : ((50, 26, 68) : Nat × Nat × Nat) ∈ zFR := List.mem_of_getElem? (i := 71) rfl
theorem rm_50_28 : ((50, 28, 69) : Nat × Nat × Nat) ∈ zFR := List.mem_of_getElem? (i := 72) rfl
theorem rm_50_29 : ((50, 29, 70) : Nat × Nat × Nat) ∈ zFR := List.mem_of_getElem? (i := 73) rfl
theorem rm_50_36 : ((50, 36, 71) : Nat × Nat × Nat) ∈ zFR := List.mem_of_getElem? (i := 74) rfl
theorem rm_50_37 : ((50, 37, 72) : Nat × Nat × Nat) ∈ zFR := List.mem_of_getElem? (i := 75) rfl
theorem rm_50_39 : ((50, 39, 73) : Nat × Nat × Nat) ∈ zFR := List.mem_of_getElem? (i := 76) rfl
theorem rm_50_40 : ((50, 40, 74) : Nat × Nat × Nat) ∈ zFR := List.mem_of_getElem? (i := 77) rfl
theorem rm_50_42 : ((50, 42, 75) : Nat × Nat × Nat) ∈ zFR := List.mem_of_getElem? (i := 78) rfl
theorem rm_50_43 : ((50, 43, 76) : Nat × Nat × Nat) ∈ zFR := List.mem_of_getElem? (i := 79) rfl
theorem rm_50_46 : ((50, 46, 77) : Nat × Nat × Nat) ∈ zFR := List.mem_of_getElem? (i := 80) rfl
theorem rm_50_51 : ((50, 51, 78) : Nat × Nat × Nat) ∈ zFR := List.mem_of_getElem? (i := 81) rfl
theorem rm_50_52 : ((50, 52, 79) : Nat × Nat × Nat) ∈ zFR := List.mem_of_getElem? (i := 82) rfl
theorem rm_50_53 : ((50, 53, 80) : Nat × Nat × Nat) ∈ zFR := List.mem_of_getElem? (i := 83) rfl
theorem rm_50_55 : ((50, 55, 81) : Nat × Nat × Nat) ∈ zFR := List.mem_of_getElem? (i := 84) rfl
theorem rm_50_57 : ((50, 57, 82) : Nat × Nat × Nat) ∈ zFR := List.mem_of_getElem? (i := 85) rfl
theorem rm_50_58 : ((50, 58, 83) : Nat × Nat × Nat) ∈ zFR := List.mem_of_getElem? (i := 86) rfl
theorem rm_50_59 : ((50, 59, 84) : Nat × Nat × Nat) ∈ zFR := List.mem_of_getElem? (i := 87) rfl
theorem rm_50_60 : ((50, 60, 85) : Nat × Nat × Nat) ∈ zFR := List.mem_of_getElem? (i := 88) rfl
theorem rm_50_61 : ((50, 61, 86) : Nat × Nat × Nat) ∈ zFR := List.mem_of_getElem? (i := 89) rfl
theorem z_six {x : Int} (h : 0 ≤ x ∧ x < 6) : x.toNat = 0 ∨ x.toNat = 1 ∨ x.toNat = 2 ∨ x.toNat = 3 ∨ x.toNat = 4 ∨ x.toNat = 5 := by omega
theorem rr_shelf {R : zR} (hR : zRok R) {x : Int} (h : 0 ≤ x ∧ x < 6) : R 37 x.toNat = some (38 + 2 * x.toNat) := by
  rcases z_six h with e | e | e | e | e | e <;> rw [e]
  · exact hR _ rm_37_0
  · exact hR _ rm_37_1
  · exact hR _ rm_37_2
  · exact hR _ rm_37_3
  · exact hR _ rm_37_4
  · exact hR _ rm_37_5
theorem rr_cells {R : zR} (hR : zRok R) {x : Int} (h : 0 ≤ x ∧ x < 6) : R (38 + 2 * x.toNat) 4 = some (39 + 2 * x.toNat) := by
  rcases z_six h with e | e | e | e | e | e <;> rw [e]
  · exact hR _ rm_38_4
  · exact hR _ rm_40_4
  · exact hR _ rm_42_4
  · exact hR _ rm_44_4
  · exact hR _ rm_46_4
  · exact hR _ rm_48_4
theorem zk_shelf {x : Int} (h : 0 ≤ x ∧ x < 6) : (gK 87)[38 + 2 * x.toNat]? = some (7, 0) := by
  rcases z_six h with e | e | e | e | e | e <;> rw [e] <;> rfl
theorem zk_cells {x : Int} (h : 0 ≤ x ∧ x < 6) : (gK 87)[39 + 2 * x.toNat]? = some (13, 60) := by
  rcases z_six h with e | e | e | e | e | e <;> rw [e] <;> rfl
theorem zC_n {J : zA} {a b c : Nat} {sp dp n y : Int} (h : c ≠ b) : zC J a b sp dp n c y = J c y := by unfold zC; rw [if_neg h]
theorem z_swI {X : Nat × (Nat → Int32)} {d k pc nx : Nat} {ls : List (Option Value)} {st : List Value} {J M : zA} {R : zR} {P : zP} {x : Int} {tg : Nat} {T : List (Int × Nat)} (h0 : gF k pc = some (82, nx, 0, 0, 0, 0)) (hx : -2147483648 ≤ x ∧ x < 2147483648) (hT : zSw k pc = T) (hq : (∃ q ∈ T, x = q.1) ∧ ∀ q ∈ T, x = q.1 → q.2 = tg) (kk : zW X d k tg ls st J M R P) : zW X d k pc ls (zi x :: st) J M R P :=
  z_sw h0 hx hT (fun q h1 h2 => by rw [hq.2 q h1 h2]; exact kk) (fun h => by
    obtain ⟨q, h1, h2⟩ := hq.1
    exact absurd h2 (h q h1))
theorem z_swO {X : Nat × (Nat → Int32)} {d k pc nx : Nat} {ls : List (Option Value)} {st : List Value} {J M : zA} {R : zR} {P : zP} {x : Int} {T : List (Int × Nat)} (h0 : gF k pc = some (82, nx, 0, 0, 0, 0)) (hx : -2147483648 ≤ x ∧ x < 2147483648) (hT : zSw k pc = T) (hq : ∀ q ∈ T, ¬ x = q.1) (kk : zW X d k nx ls st J M R P) : zW X d k pc ls (zi x :: st) J M R P :=
  z_sw h0 hx hT (fun q h1 h2 => absurd h2 (hq q h1)) (fun _ => kk)
/-- the number `w` of place `p`, as the class has it; 0 where there is none -/
noncomputable def cN (A : zA) (p w : Int) : Int := if 0 ≤ w ∧ w < 5 ∧ 0 ≤ p ∧ p < A 8 2 then A 9 (p * 5 + w) else if 5 ≤ w ∧ w < 14 ∧ p = 0 then A 9 (40 + w) else 0
/-- the same, as the reference has it -/
noncomputable def rN (A : zA) (p w : Int) : Int := if 0 ≤ w ∧ w < 5 ∧ 0 ≤ p ∧ p < A 50 1 then A (51 + w.toNat) p else if 5 ≤ w ∧ w < 14 ∧ p = 0 then A 56 (w - 5) else 0
/-- what the numbers are, of n places -/
def zNr (n : Int) (N : Int → Int → Int) : Prop := (∀ p, 0 ≤ N p 0 ∧ N p 0 ≤ 99) ∧ (∀ p, 0 ≤ N p 1 ∧ N p 1 ≤ 99) ∧ (∀ p, 0 ≤ N p 2 ∧ N p 2 ≤ 99) ∧ (∀ p, 0 ≤ N p 3 ∧ N p 3 ≤ 9) ∧ (∀ p, 0 ≤ N p 4 ∧ N p 4 ≤ 9) ∧ (0 ≤ N 0 5 ∧ N 0 5 ≤ 99) ∧ (0 ≤ N 0 6 ∧ N 0 6 ≤ 999) ∧ (1 ≤ N 0 7 ∧ N 0 7 ≤ 99) ∧ (0 ≤ N 0 8 ∧ N 0 8 ≤ 9999) ∧ (0 ≤ N 0 9 ∧ N 0 9 ≤ 9999) ∧ (0 ≤ N 0 10 ∧ N 0 10 ≤ 12) ∧ (0 ≤ N 0 11 ∧ N 0 11 ≤ 9999) ∧ (1 ≤ N 0 12 ∧ N 0 12 ≤ 99) ∧ (1 ≤ N 0 13 ∧ N 0 13 ≤ 99) ∧ (0 ≤ n ∧ n ≤ 8)
theorem cN_g {A : zA} {w : Int} (h : 5 ≤ w ∧ w < 14) : cN A 0 w = A 9 (40 + w) := by
  unfold cN
  rw [if_neg (by omega), if_pos (by omega)]
theorem rN_g {A : zA} {w : Int} (h : 5 ≤ w ∧ w < 14) : rN A 0 w = A 56 (w - 5) := by
  unfold rN
  rw [if_neg (by omega), if_pos (by omega)]
theorem told_s {X : Nat × (Nat → Int32)} {d : Nat} {J M : zA} {R : zR} (hR : zRok R) {p w : Int} (hn : 0 ≤ J 8 2 ∧ J 8 2 ≤ 8) (hp : -2147483648 ≤ p ∧ p < 2147483648) (hw : -2147483648 ≤ w ∧ w < 2147483648) : zW X (d + 3) 90 0 (gEn 90 [(.ref 8), (zi p), (zi w)]) [] J M R (zPu (cN J p w) J M R) := by
  show zW _ _ _ _ [some (.ref 8), some (zi p), some (zi w), none] _ _ _ _ _
  refine z_aload0 rfl ?_
  refine z_iload1 rfl ?_
  refine z_iload2 rfl ?_
  refine z_cV2 rfl gk_8 go_89 (Nat.le_of_ble_eq_true rfl) gc_89_RII ?_
  refine z_iload2 gi_89_0 ?_
  refine z_if_lt gi_89_1 (by omega) (fun h1 => ?_) (fun h1 => ?_)
  · refine z_pushJ gp_89_10 ?_
    refine z_iret gi_89_11 gr_89 ?_
    show zW _ _ _ _ _ _ _ _ _ _
    refine z_istore (ls1 := [some (.ref 8), some (zi p), some (zi w), some (zi (-1))]) gi_90_6 rfl ?_
    refine z_iload3 gi_90_7 ?_
    refine z_if_geF gi_90_8 zrn_1 (by decide) ?_
    refine z_pushJ gp_90_11 ?_
    refine z_goto gi_90_12 ?_
    refine z_iret gi_90_21 gr_90 ?_
    refine ⟨congrArg (fun v => some (zi v)) ?_, rfl, rfl, rfl⟩
    unfold cN
    split <;> (try split) <;> first | rfl | (exfalso; omega)
  · refine z_iload2 gi_89_4 ?_
    refine z_pushJ gp_89_5 ?_
    refine z_icmp_lt gi_89_7 (by omega) zr_14 (fun h2 => ?_) (fun h2 => ?_)
    · refine z_iload2 gi_89_12 ?_
      refine z_pushJ gp_89_13 ?_
      refine z_icmp_ge gi_89_14 (by omega) zr_5 (fun h3 => ?_) (fun h3 => ?_)
      · refine z_iload1 gi_89_35 ?_
        refine z_if_ne gi_89_36 (by omega) (fun h4 => ?_) (fun h4 => ?_)
        · refine z_pushJ gp_89_46 ?_
          refine z_iret gi_89_47 gr_89 ?_
          show zW _ _ _ _ _ _ _ _ _ _
          refine z_istore (ls1 := [some (.ref 8), some (zi p), some (zi w), some (zi (-1))]) gi_90_6 rfl ?_
          refine z_iload3 gi_90_7 ?_
          refine z_if_geF gi_90_8 zrn_1 (by decide) ?_
          refine z_pushJ gp_90_11 ?_
          refine z_goto gi_90_12 ?_
          refine z_iret gi_90_21 gr_90 ?_
          refine ⟨congrArg (fun v => some (zi v)) ?_, rfl, rfl, rfl⟩
          unfold cN
          split <;> (try split) <;> first | rfl | (exfalso; omega)
        · refine z_pushJ gp_89_39 ?_
          refine z_iload2 gi_89_41 ?_
          refine z_iadd (e := 40 + w) gi_89_42 rfl ?_
          refine z_goto gi_89_43 ?_
          refine z_iret gi_89_47 gr_89 ?_
          show zW _ _ _ _ _ _ _ _ _ _
          refine z_istore (ls1 := [some (.ref 8), some (zi p), some (zi w), some (zi (40 + w))]) gi_90_6 rfl ?_
          refine z_iload3 gi_90_7 ?_
          refine z_if_ge gi_90_8 (by omega) (fun h5 => ?_) (fun h5 => ?_)
          · refine z_aload0 gi_90_15 ?_
            refine z_getR (r := 9) gi_90_16 gk_8 (hR _ rm_8_1) ?_
            refine z_iload3 gi_90_19 ?_
            refine z_iald (v := J 9 (40 + w)) gi_90_20 gk_9 (by decide) (by omega) (rfl) ?_
            refine z_iret gi_90_21 gr_90 ?_
            refine ⟨congrArg (fun v => some (zi v)) ?_, rfl, rfl, rfl⟩
            unfold cN
            split <;> (try split) <;> first | rfl | (exfalso; omega)
          · refine z_pushJ gp_90_11 ?_
            refine z_goto gi_90_12 ?_
            refine z_iret gi_90_21 gr_90 ?_
            refine ⟨congrArg (fun v => some (zi v)) ?_, rfl, rfl, rfl⟩
            unfold cN
            split <;> (try split) <;> first | rfl | (exfalso; omega)
      · refine z_aload0 gi_89_17 ?_
        refine z_iload1 gi_89_18 ?_
        refine z_cV1 gi_89_19 gk_8 go_87 (Nat.le_of_ble_eq_true rfl) gc_87_RI ?_
        refine z_iload1 gi_87_0 ?_
        refine z_if_lt gi_87_1 (by omega) (fun h6 => ?_) (fun h6 => ?_)
        · refine z_pushJ gp_87_16 ?_
          refine z_bret0 gi_87_17 gr_87 ?_
          show zW _ _ _ _ _ _ _ _ _ _
          refine z_if_eqT gi_89_22 zr_0 (by decide) ?_
          refine z_pushJ gp_89_33 ?_
          refine z_iret gi_89_34 gr_89 ?_
          show zW _ _ _ _ _ _ _ _ _ _
          refine z_istore (ls1 := [some (.ref 8), some (zi p), some (zi w), some (zi (-1))]) gi_90_6 rfl ?_
          refine z_iload3 gi_90_7 ?_
          refine z_if_geF gi_90_8 zrn_1 (by decide) ?_
          refine z_pushJ gp_90_11 ?_
          refine z_goto gi_90_12 ?_
          refine z_iret gi_90_21 gr_90 ?_
          refine ⟨congrArg (fun v => some (zi v)) ?_, rfl, rfl, rfl⟩
          unfold cN
          split <;> (try split) <;> first | rfl | (exfalso; omega)
        · refine z_iload1 gi_87_4 ?_
          refine z_aload0 gi_87_5 ?_
          refine z_getI (v := J 8 2) gi_87_6 gk_8 (rfl) ?_
          refine z_icmp_ge gi_87_9 (by omega) (by omega) (fun h7 => ?_) (fun h7 => ?_)
          · refine z_pushJ gp_87_16 ?_
            refine z_bret0 gi_87_17 gr_87 ?_
            show zW _ _ _ _ _ _ _ _ _ _
            refine z_if_eqT gi_89_22 zr_0 (by decide) ?_
            refine z_pushJ gp_89_33 ?_
            refine z_iret gi_89_34 gr_89 ?_
            show zW _ _ _ _ _ _ _ _ _ _
            refine z_istore (ls1 := [some (.ref 8), some (zi p), some (zi w), some (zi (-1))]) gi_90_6 rfl ?_
            refine z_iload3 gi_90_7 ?_
            refine z_if_geF gi_90_8 zrn_1 (by decide) ?_
            refine z_pushJ gp_90_11 ?_
            refine z_goto gi_90_12 ?_
            refine z_iret gi_90_21 gr_90 ?_
            refine ⟨congrArg (fun v => some (zi v)) ?_, rfl, rfl, rfl⟩
            unfold cN
            split <;> (try split) <;> first | rfl | (exfalso; omega)
          · refine z_pushJ gp_87_12 ?_
            refine z_goto gi_87_13 ?_
            refine z_bret1 gi_87_17 gr_87 ?_
            show zW _ _ _ _ _ _ _ _ _ _
            refine z_if_eqF gi_89_22 zr_1 (by decide) ?_
            refine z_iload1 gi_89_25 ?_
            refine z_pushJ gp_89_26 ?_
            refine z_imul (e := p * 5) gi_89_27 rfl ?_
            refine z_iload2 gi_89_28 ?_
            refine z_iadd (e := p * 5 + w) gi_89_29 rfl ?_
            refine z_goto gi_89_30 ?_
            refine z_iret gi_89_34 gr_89 ?_
            show zW _ _ _ _ _ _ _ _ _ _
            refine z_istore (ls1 := [some (.ref 8), some (zi p), some (zi w), some (zi (p * 5 + w))]) gi_90_6 rfl ?_
            refine z_iload3 gi_90_7 ?_
            refine z_if_ge gi_90_8 (by omega) (fun h8 => ?_) (fun h8 => ?_)
            · refine z_aload0 gi_90_15 ?_
              refine z_getR (r := 9) gi_90_16 gk_8 (hR _ rm_8_1) ?_
              refine z_iload3 gi_90_19 ?_
              refine z_iald (v := J 9 (p * 5 + w)) gi_90_20 gk_9 (by decide) (by omega) (rfl) ?_
              refine z_iret gi_90_21 gr_90 ?_
              refine ⟨congrArg (fun v => some (zi v)) ?_, rfl, rfl, rfl⟩
              unfold cN
              split <;> (try split) <;> first | rfl | (exfalso; omega)
            · refine z_pushJ gp_90_11 ?_
              refine z_goto gi_90_12 ?_
              refine z_iret gi_90_21 gr_90 ?_
              refine ⟨congrArg (fun v => some (zi v)) ?_, rfl, rfl, rfl⟩
              unfold cN
              split <;> (try split) <;> first | rfl | (exfalso; omega)
    · refine z_pushJ gp_89_10 ?_
      refine z_iret gi_89_11 gr_89 ?_
      show zW _ _ _ _ _ _ _ _ _ _
      refine z_istore (ls1 := [some (.ref 8), some (zi p), some (zi w), some (zi (-1))]) gi_90_6 rfl ?_
      refine z_iload3 gi_90_7 ?_
      refine z_if_geF gi_90_8 zrn_1 (by decide) ?_
      refine z_pushJ gp_90_11 ?_
      refine z_goto gi_90_12 ?_
      refine z_iret gi_90_21 gr_90 ?_
      refine ⟨congrArg (fun v => some (zi v)) ?_, rfl, rfl, rfl⟩
      unfold cN
      split <;> (try split) <;> first | rfl | (exfalso; omega)
