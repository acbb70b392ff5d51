/-- a number that may stand at `w` -/
def zFit (w v : Int) : Prop := zT 2 w ≤ v ∧ v ≤ zT 3 w
def zOkc (n p w b a : Int) : Prop := ((0 ≤ w ∧ w < 5 ∧ 0 ≤ p ∧ p < n) ∨ (5 ≤ w ∧ w < 14 ∧ p = 0)) ∧ zFit w b ∧ zFit w a
def RelY (J : zA) : Prop := cN J = rN J ∧ J 8 2 = J 50 1 ∧ zNr (J 8 2) (cN J)
def RelD (J : zA) : Prop := (J 23 3 = J 50 45 ∧ J 23 4 = J 50 44 ∧ J 23 5 = J 77 0 ∧ J 23 6 = J 77 1 ∧ J 23 7 = J 77 2 ∧ J 23 8 = J 77 3) ∧ (0 ≤ J 23 3 ∧ J 23 3 ≤ 999) ∧ (-1 ≤ J 23 4 ∧ J 23 4 < J 8 2) ∧ (∀ p, 0 ≤ p → p < J 8 2 → J 24 p = J 75 p ∧ J 25 p = J 76 p) ∧ (∀ p, J 8 2 ≤ p → p < 8 → J 24 p = 0 ∧ J 25 p = 0) ∧ (∀ p, 0 ≤ p → p < 8 → (0 ≤ J 24 p ∧ J 24 p ≤ 1000000) ∧ (0 ≤ J 25 p ∧ J 25 p ≤ J 23 3))
def RelP1 (J : zA) : Prop := (J 26 3 = J 50 50 ∧ J 26 4 = J 50 49 ∧ J 26 5 = J 80 0 ∧ J 26 6 = J 80 1 ∧ J 26 7 = J 80 2 ∧ J 26 8 = J 80 3) ∧ (0 ≤ J 26 3 ∧ J 26 3 ≤ 999) ∧ (-1 ≤ J 26 4 ∧ J 26 4 < J 8 2) ∧ (0 ≤ J 50 48 ∧ J 50 48 ≤ J 8 2) ∧ (∀ p, 0 ≤ p → p < J 50 48 → J 27 p = J 78 p ∧ J 28 p = J 79 p) ∧ (∀ p, J 50 48 ≤ p → p < 8 → J 27 p = 0 ∧ J 28 p = 0) ∧ (∀ p, 0 ≤ p → p < 8 → (0 ≤ J 27 p ∧ J 27 p ≤ 1000000) ∧ (0 ≤ J 28 p ∧ J 28 p ≤ J 26 3))
def RelP (J : zA) : Prop := J 0 8 = J 50 47 ∧ (J 0 8 = 0 ∨ J 0 8 = 1) ∧ (J 0 8 = 1 → RelP1 J)
def RelC (J : zA) : Prop := J 29 5 = J 50 8 ∧ J 29 6 = J 50 8 + J 50 9 ∧ 0 ≤ J 50 8 ∧ 0 ≤ J 50 9 ∧ J 50 8 + J 50 9 ≤ 40 ∧ (∀ i, 0 ≤ i → i < J 29 6 → (J 30 i = J 58 i ∧ J 31 i = J 57 i ∧ J 32 i = J 59 i ∧ J 33 i = J 60 i) ∧ zOkc (J 8 2) (J 30 i) (J 31 i) (J 32 i) (J 33 i))
def RelA (J : zA) : Prop := J 34 1 = J 50 54 ∧ (0 ≤ J 34 1 ∧ J 34 1 ≤ 50) ∧ J 34 3 = J 50 56 ∧ (0 ≤ J 34 3 ∧ J 34 3 ≤ 1000) ∧ (∀ i, 0 ≤ i → i < J 34 1 → J 35 i = J 81 i ∧ (0 ≤ J 35 i ∧ J 35 i ≤ 7)) ∧ (∀ i, 0 ≤ i → i < J 34 3 → i < 24 → J 36 i = J 82 i)
/-- what a shelf holds, in the reference's words: -1 nothing, a body, -2 less the sort of a row -/
noncomputable def cH (J : zA) (s : Int) : Int := if J (38 + 2 * s.toNat) 0 = 0 then -1 else if J (38 + 2 * s.toNat) 0 = 1 then J (38 + 2 * s.toNat) 1 else -2 - J (38 + 2 * s.toNat) 2
def RelS1 (J M : zA) (s : Int) : Prop := cH J s = J 83 s ∧ (0 ≤ J (38 + 2 * s.toNat) 0 ∧ J (38 + 2 * s.toNat) 0 ≤ 2) ∧ (0 ≤ J (38 + 2 * s.toNat) 2 ∧ J (38 + 2 * s.toNat) 2 ≤ 4) ∧ (0 ≤ J (38 + 2 * s.toNat) 3 ∧ J (38 + 2 * s.toNat) 3 ≤ 60) ∧ (J (38 + 2 * s.toNat) 0 = 1 → 0 ≤ J (38 + 2 * s.toNat) 1 ∧ J (38 + 2 * s.toNat) 1 < J 34 1) ∧ (J (38 + 2 * s.toNat) 0 = 2 → J (38 + 2 * s.toNat) 3 = J 84 s ∧ (∀ i, 0 ≤ i → i < J (38 + 2 * s.toNat) 3 → M (39 + 2 * s.toNat) i = M 85 (60 * s + i)) ∧ (J (38 + 2 * s.toNat) 2 = 0 → ∀ i, 0 ≤ i → i < J (38 + 2 * s.toNat) 3 → -128 ≤ M (39 + 2 * s.toNat) i ∧ M (39 + 2 * s.toNat) i ≤ 127))
def RelS (J M : zA) : Prop := ∀ s, 0 ≤ s → s < 6 → RelS1 J M s
def RelT (J : zA) : Prop := J 1 1 = J 50 15 ∧ (0 ≤ J 1 1 ∧ J 1 1 ≤ 120) ∧ (∀ i, 0 ≤ i → i < J 1 1 → (0 ≤ J 2 i ∧ J 2 i ≤ 255) ∧ J 61 i = zb (J 2 i))
def RelG (R : zR) : Prop := (R 1 3 = some 3 ∧ R 1 4 = some 4 ∧ R 1 6 = some 5 ∧ R 1 7 = some 6) ∨ (R 1 3 = some 5 ∧ R 1 4 = some 6 ∧ R 1 6 = some 3 ∧ R 1 7 = some 4)
def RelX (X : Nat × (Nat → Int32)) (J : zA) (R : zR) : Prop := ∃ T, Tok T ∧ LawC X J R T ∧ LawR X J T
def RelW (J : zA) : Prop := (0 ≤ J 10 12 ∧ J 10 12 ≤ 1000000) ∧ J 50 35 = 0
def Rel (X : Nat × (Nat → Int32)) (J M : zA) (R : zR) : Prop := zRok R ∧ RelG R ∧ RelY J ∧ RelD J ∧ RelP J ∧ RelC J ∧ RelA J ∧ RelS J M ∧ RelT J ∧ RelX X J R ∧ RelW J
theorem RelD_k {k : Nat → Int → Bool} {J J2 : zA} (h : zK k J J2) (c : k 23 3 = true ∧ k 23 4 = true ∧ k 23 5 = true ∧ k 23 6 = true ∧ k 23 7 = true ∧ k 23 8 = true ∧ k 50 45 = true ∧ k 50 44 = true ∧ k 77 0 = true ∧ k 77 1 = true ∧ k 77 2 = true ∧ k 77 3 = true ∧ k 8 2 = true) (d : ∀ p : Int, k 24 p = true ∧ k 25 p = true ∧ k 75 p = true ∧ k 76 p = true) (r : RelD J) : RelD J2 := by
  have e23_3 : J2 23 3 = J 23 3 := h 23 3 (c.1)
  have e23_4 : J2 23 4 = J 23 4 := h 23 4 (c.2.1)
  have e23_5 : J2 23 5 = J 23 5 := h 23 5 (c.2.2.1)
  have e23_6 : J2 23 6 = J 23 6 := h 23 6 (c.2.2.2.1)
  have e23_7 : J2 23 7 = J 23 7 := h 23 7 (c.2.2.2.2.1)
  have e23_8 : J2 23 8 = J 23 8 := h 23 8 (c.2.2.2.2.2.1)
  have e50_45 : J2 50 45 = J 50 45 := h 50 45 (c.2.2.2.2.2.2.1)
  have e50_44 : J2 50 44 = J 50 44 := h 50 44 (c.2.2.2.2.2.2.2.1)
  have e77_0 : J2 77 0 = J 77 0 := h 77 0 (c.2.2.2.2.2.2.2.2.1)
  have e77_1 : J2 77 1 = J 77 1 := h 77 1 (c.2.2.2.2.2.2.2.2.2.1)
  have e77_2 : J2 77 2 = J 77 2 := h 77 2 (c.2.2.2.2.2.2.2.2.2.2.1)
  have e77_3 : J2 77 3 = J 77 3 := h 77 3 (c.2.2.2.2.2.2.2.2.2.2.2.1)
  have e8_2 : J2 8 2 = J 8 2 := h 8 2 (c.2.2.2.2.2.2.2.2.2.2.2.2)
  have e24 : ∀ p, J2 24 p = J 24 p := fun p => h 24 p ((d p).1)
  have e25 : ∀ p, J2 25 p = J 25 p := fun p => h 25 p ((d p).2.1)
  have e75 : ∀ p, J2 75 p = J 75 p := fun p => h 75 p ((d p).2.2.1)
  have e76 : ∀ p, J2 76 p = J 76 p := fun p => h 76 p ((d p).2.2.2)
  unfold RelD at r ⊢
  simp only [e23_3, e23_4, e23_5, e23_6, e23_7, e23_8, e50_45, e50_44, e77_0, e77_1, e77_2, e77_3, e8_2, e24, e25, e75, e76]
  exact r
theorem RelP_k {k : Nat → Int → Bool} {J J2 : zA} (h : zK k J J2) (c : k 0 8 = true ∧ k 50 47 = true ∧ k 26 3 = true ∧ k 26 4 = true ∧ k 26 5 = true ∧ k 26 6 = true ∧ k 26 7 = true ∧ k 26 8 = true ∧ k 50 50 = true ∧ k 50 49 = true ∧ k 50 48 = true ∧ k 80 0 = true ∧ k 80 1 = true ∧ k 80 2 = true ∧ k 80 3 = true ∧ k 8 2 = true) (d : ∀ p : Int, k 27 p = true ∧ k 28 p = true ∧ k 78 p = true ∧ k 79 p = true) (r : RelP J) : RelP J2 := by
  have e0_8 : J2 0 8 = J 0 8 := h 0 8 (c.1)
  have e50_47 : J2 50 47 = J 50 47 := h 50 47 (c.2.1)
  have e26_3 : J2 26 3 = J 26 3 := h 26 3 (c.2.2.1)
  have e26_4 : J2 26 4 = J 26 4 := h 26 4 (c.2.2.2.1)
  have e26_5 : J2 26 5 = J 26 5 := h 26 5 (c.2.2.2.2.1)
  have e26_6 : J2 26 6 = J 26 6 := h 26 6 (c.2.2.2.2.2.1)
  have e26_7 : J2 26 7 = J 26 7 := h 26 7 (c.2.2.2.2.2.2.1)
  have e26_8 : J2 26 8 = J 26 8 := h 26 8 (c.2.2.2.2.2.2.2.1)
  have e50_50 : J2 50 50 = J 50 50 := h 50 50 (c.2.2.2.2.2.2.2.2.1)
  have e50_49 : J2 50 49 = J 50 49 := h 50 49 (c.2.2.2.2.2.2.2.2.2.1)
  have e50_48 : J2 50 48 = J 50 48 := h 50 48 (c.2.2.2.2.2.2.2.2.2.2.1)
  have e80_0 : J2 80 0 = J 80 0 := h 80 0 (c.2.2.2.2.2.2.2.2.2.2.2.1)
  have e80_1 : J2 80 1 = J 80 1 := h 80 1 (c.2.2.2.2.2.2.2.2.2.2.2.2.1)
  have e80_2 : J2 80 2 = J 80 2 := h 80 2 (c.2.2.2.2.2.2.2.2.2.2.2.2.2.1)
  have e80_3 : J2 80 3 = J 80 3 := h 80 3 (c.2.2.2.2.2.2.2.2.2.2.2.2.2.2.1)
  have e8_2 : J2 8 2 = J 8 2 := h 8 2 (c.2.2.2.2.2.2.2.2.2.2.2.2.2.2.2)
  have e27 : ∀ p, J2 27 p = J 27 p := fun p => h 27 p ((d p).1)
  have e28 : ∀ p, J2 28 p = J 28 p := fun p => h 28 p ((d p).2.1)
  have e78 : ∀ p, J2 78 p = J 78 p := fun p => h 78 p ((d p).2.2.1)
  have e79 : ∀ p, J2 79 p = J 79 p := fun p => h 79 p ((d p).2.2.2)
  unfold RelP RelP1 at r ⊢
  simp only [e0_8, e50_47, e26_3, e26_4, e26_5, e26_6, e26_7, e26_8, e50_50, e50_49, e50_48, e80_0, e80_1, e80_2, e80_3, e8_2, e27, e28, e78, e79]
  exact r
theorem RelC_k {k : Nat → Int → Bool} {J J2 : zA} (h : zK k J J2) (c : k 29 5 = true ∧ k 29 6 = true ∧ k 50 8 = true ∧ k 50 9 = true ∧ k 8 2 = true) (d : ∀ p : Int, k 30 p = true ∧ k 31 p = true ∧ k 32 p = true ∧ k 33 p = true ∧ k 57 p = true ∧ k 58 p = true ∧ k 59 p = true ∧ k 60 p = true) (r : RelC J) : RelC J2 := by
  have e29_5 : J2 29 5 = J 29 5 := h 29 5 (c.1)
  have e29_6 : J2 29 6 = J 29 6 := h 29 6 (c.2.1)
  have e50_8 : J2 50 8 = J 50 8 := h 50 8 (c.2.2.1)
  have e50_9 : J2 50 9 = J 50 9 := h 50 9 (c.2.2.2.1)
  have e8_2 : J2 8 2 = J 8 2 := h 8 2 (c.2.2.2.2)
  have e30 : ∀ p, J2 30 p = J 30 p := fun p => h 30 p ((d p).1)
  have e31 : ∀ p, J2 31 p = J 31 p := fun p => h 31 p ((d p).2.1)
  have e32 : ∀ p, J2 32 p = J 32 p := fun p => h 32 p ((d p).2.2.1)
  have e33 : ∀ p, J2 33 p = J 33 p := fun p => h 33 p ((d p).2.2.2.1)
  have e57 : ∀ p, J2 57 p = J 57 p := fun p => h 57 p ((d p).2.2.2.2.1)
  have e58 : ∀ p, J2 58 p = J 58 p := fun p => h 58 p ((d p).2.2.2.2.2.1)
  have e59 : ∀ p, J2 59 p = J 59 p := fun p => h 59 p ((d p).2.2.2.2.2.2.1)
  have e60 : ∀ p, J2 60 p = J 60 p := fun p => h 60 p ((d p).2.2.2.2.2.2.2)
  unfold RelC at r ⊢
  simp only [e29_5, e29_6, e50_8, e50_9, e8_2, e30, e31, e32, e33, e57, e58, e59, e60]
  exact r
theorem RelA_k {k : Nat → Int → Bool} {J J2 : zA} (h : zK k J J2) (c : k 34 1 = true ∧ k 34 3 = true ∧ k 50 54 = true ∧ k 50 56 = true) (d : ∀ p : Int, k 35 p = true ∧ k 36 p = true ∧ k 81 p = true ∧ k 82 p = true) (r : RelA J) : RelA J2 := by
  have e34_1 : J2 34 1 = J 34 1 := h 34 1 (c.1)
  have e34_3 : J2 34 3 = J 34 3 := h 34 3 (c.2.1)
  have e50_54 : J2 50 54 = J 50 54 := h 50 54 (c.2.2.1)
  have e50_56 : J2 50 56 = J 50 56 := h 50 56 (c.2.2.2)
  have e35 : ∀ p, J2 35 p = J 35 p := fun p => h 35 p ((d p).1)
  have e36 : ∀ p, J2 36 p = J 36 p := fun p => h 36 p ((d p).2.1)
  have e81 : ∀ p, J2 81 p = J 81 p := fun p => h 81 p ((d p).2.2.1)
  have e82 : ∀ p, J2 82 p = J 82 p := fun p => h 82 p ((d p).2.2.2)
  unfold RelA at r ⊢
  simp only [e34_1, e34_3, e50_54, e50_56, e35, e36, e81, e82]
  exact r
theorem RelT_k {k : Nat → Int → Bool} {J J2 : zA} (h : zK k J J2) (c : k 1 1 = true ∧ k 50 15 = true) (d : ∀ p : Int, k 2 p = true ∧ k 61 p = true) (r : RelT J) : RelT J2 := by
  have e1_1 : J2 1 1 = J 1 1 := h 1 1 (c.1)
  have e50_15 : J2 50 15 = J 50 15 := h 50 15 (c.2)
  have e2 : ∀ p, J2 2 p = J 2 p := fun p => h 2 p ((d p).1)
  have e61 : ∀ p, J2 61 p = J 61 p := fun p => h 61 p ((d p).2)
  unfold RelT at r ⊢
  simp only [e1_1, e50_15, e2, e61]
  exact r
theorem RelW_k {k : Nat → Int → Bool} {J J2 : zA} (h : zK k J J2) (c : k 10 12 = true ∧ k 50 35 = true) (d : True) (r : RelW J) : RelW J2 := by
  have e10_12 : J2 10 12 = J 10 12 := h 10 12 (c.1)
  have e50_35 : J2 50 35 = J 50 35 := h 50 35 (c.2)
  unfold RelW at r ⊢
  simp only [e10_12, e50_35]
  exact r
theorem RelY_k {k : Nat → Int → Bool} {J J2 : zA} (h : zK k J J2) (c : k 8 2 = true ∧ k 50 1 = true) (d : ∀ p : Int, k 9 p = true ∧ k 51 p = true ∧ k 52 p = true ∧ k 53 p = true ∧ k 54 p = true ∧ k 55 p = true ∧ k 56 p = true) (r : RelY J) : RelY J2 := by
  have a1 : cN J2 = cN J := by
    funext p w
    unfold cN
    rw [h 8 2 c.1, h 9 _ (d _).1, h 9 _ (d _).1]
  have a2 : rN J2 = rN J := by
    funext p w
    unfold rN
    rw [h 50 1 c.2, h 56 _ (d _).2.2.2.2.2.2]
    by_cases q : 0 ≤ w ∧ w < 5 ∧ 0 ≤ p ∧ p < J 50 1
    · rw [if_pos q, if_pos q]
      have e : w.toNat = 0 ∨ w.toNat = 1 ∨ w.toNat = 2 ∨ w.toNat = 3 ∨ w.toNat = 4 := by omega
      rcases e with e | e | e | e | e <;> rw [e]
      · exact h 51 p (d p).2.1
      · exact h 52 p (d p).2.2.1
      · exact h 53 p (d p).2.2.2.1
      · exact h 54 p (d p).2.2.2.2.1
      · exact h 55 p (d p).2.2.2.2.2.1
    · rw [if_neg q, if_neg q]
  unfold RelY at r ⊢
  rw [a1, a2, h 8 2 c.1, h 50 1 c.2]
  exact r
theorem RelS_k {k l : Nat → Int → Bool} {J J2 M M2 : zA} (h : zK k J J2) (hm : zK l M M2) (c : ∀ x (j : Int), 38 ≤ x → x ≤ 49 → k x j = true ∧ l x j = true) (d : ∀ p : Int, k 83 p = true ∧ k 84 p = true ∧ l 85 p = true) (c1 : k 34 1 = true) (r : RelS J M) : RelS J2 M2 := by
  intro s s1 s2
  have r1 := r s s1 s2
  have e38 : ∀ j, J2 (38 + 2 * s.toNat) j = J (38 + 2 * s.toNat) j := fun j => h _ j (c _ j (by omega) (by omega)).1
  have e39 : ∀ j, M2 (39 + 2 * s.toNat) j = M (39 + 2 * s.toNat) j := fun j => hm _ j (c _ j (by omega) (by omega)).2
  have e83 : ∀ p, J2 83 p = J 83 p := fun p => h 83 p (d p).1
  have e84 : ∀ p, J2 84 p = J 84 p := fun p => h 84 p (d p).2.1
  have e85 : ∀ p, M2 85 p = M 85 p := fun p => hm 85 p (d p).2.2
  have e34 : J2 34 1 = J 34 1 := h 34 1 c1
  unfold RelS1 cH at r1 ⊢
  simp only [e38, e39, e83, e84, e85, e34]
  exact r1
theorem RelX_k {k : Nat → Int → Bool} {X : Nat × (Nat → Int32)} {J J2 : zA} {R : zR} (h : zK k J J2) (c : k 1 5 = true ∧ k 50 27 = true) (d : ∀ p : Int, k 3 p = true ∧ k 4 p = true ∧ k 5 p = true ∧ k 6 p = true ∧ k 62 p = true ∧ k 63 p = true ∧ k 64 p = true ∧ k 65 p = true ∧ k 66 p = true) (r : RelX X J R) : RelX X J2 R := by
  obtain ⟨T, t1, t2, t3⟩ := r
  refine ⟨T, t1, LawC_A t2 (h 1 5 c.1) (fun j => h 3 j (d j).1) (fun j => h 4 j (d j).2.1) (fun j => h 5 j (d j).2.2.1) (fun j => h 6 j (d j).2.2.2.1), LawR_A t3 (h 50 27 c.2) (fun x j a b => ?_)⟩
  have e : x = 62 ∨ x = 63 ∨ x = 64 ∨ x = 65 ∨ x = 66 := by omega
  rcases e with rfl | rfl | rfl | rfl | rfl
  · exact h _ j (d j).2.2.2.2.1
  · exact h _ j (d j).2.2.2.2.2.1
  · exact h _ j (d j).2.2.2.2.2.2.1
  · exact h _ j (d j).2.2.2.2.2.2.2.1
  · exact h _ j (d j).2.2.2.2.2.2.2.2
theorem kS_38 (x : Nat) (j : Int) (h1 : 38 ≤ x) (h2 : x ≤ 49) : kS x j = true ∧ kM x j = true := by
  unfold kS kM
  rw [beq_f (n := 1) (by omega), beq_f (n := 34) (by omega), beq_f (n := 50) (by omega), beq_f (n := 10) (by omega), beq_f (n := 7) (by omega), beq_f (n := 22) (by omega), beq_f (n := 73) (by omega), beq_f (n := 74) (by omega), beq_f (n := 86) (by omega)]
  refine ⟨?_, rfl⟩
  rw [show Nat.ble x 22 = false from by cases e : Nat.ble x 22 with
    | false => rfl
    | true => exact absurd (Nat.le_of_ble_eq_true e) (by omega)]
  rw [show Nat.ble 67 x = false from by cases e : Nat.ble 67 x with
    | false => rfl
    | true => exact absurd (Nat.le_of_ble_eq_true e) (by omega)]
  cases Nat.ble 10 x <;> rfl
/-- what is kept between calls keeps the relation -/
theorem Rel_S {X : Nat × (Nat → Int32)} {J J2 M M2 : zA} {R : zR} (h : zK kS J J2) (hm : zK kM M M2) (r : Rel X J M R) : Rel X J2 M2 R := by
  obtain ⟨r1, r2, r3, r4, r5, r6, r7, r8, r9, r10, r11⟩ := r
  refine ⟨r1, r2, RelY_k h ?_ (fun p => ?_) r3, RelD_k h ?_ (fun p => ?_) r4, RelP_k h ?_ (fun p => ?_) r5, RelC_k h ?_ (fun p => ?_) r6, RelA_k h ?_ (fun p => ?_) r7, RelS_k h hm (fun x j a b => kS_38 x j a b) (fun p => ?_) rfl r8, RelT_k h ?_ (fun p => ?_) r9, RelX_k h ?_ (fun p => ?_) r10, RelW_k h ?_ trivial r11⟩
  all_goals (repeat' constructor)
