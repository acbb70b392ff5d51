theorem zU_69 {A : zA} {p s l s2 l2 : Int} : zU (zU (zU (zU A 69 p s) 70 p l) 69 p s2) 70 p l2 = (zU (zU A 69 p s2) 70 p l2) := by
  funext x j
  unfold zU
  (repeat' split) <;> first | rfl | contradiction
theorem zU_69p {A : zA} {p s l : Int} : (zU (zU A 69 p s) 70 p l) 69 p = s := by
  unfold zU
  (repeat' split) <;> first | rfl | contradiction | (exfalso; omega)
theorem zU_70p {A : zA} {p s l : Int} : (zU (zU A 69 p s) 70 p l) 70 p = l := by
  unfold zU
  (repeat' split) <;> first | rfl | contradiction | (exfalso; omega)
/-- what the reference's text and numbers are read from -/
noncomputable def kV (x : Nat) (j : Int) : Bool := bif x.beq 50 then (decide (j = 1) || decide (j = 27)) else (Nat.ble 51 x && Nat.ble x 66)
theorem kV_t {x : Nat} {j : Int} (h : 51 ≤ x ∧ x ≤ 66) : kV x j = true := by
  unfold kV
  rw [beq_f (by omega), Nat.ble_eq_true_of_le h.1, Nat.ble_eq_true_of_le h.2]
  rfl
theorem rN_V {A J : zA} (h : zK kV A J) : rN J = rN A := by
  funext p w
  unfold rN
  have q1 : J 50 1 = A 50 1 := h 50 1 rfl
  have q2 : ∀ i, J 56 i = A 56 i := fun i => h 56 i (kV_t (by omega))
  rw [q1, q2]
  by_cases c : 0 ≤ w ∧ w < 5 ∧ 0 ≤ p ∧ p < A 50 1
  · rw [if_pos c, if_pos c]
    exact h _ _ (kV_t (by omega))
  · rw [if_neg c, if_neg c]
theorem LawR_V {X : Nat × (Nat → Int32)} {A J : zA} {T : zX} (h : LawR X A T) (hk : zK kV A J) : LawR X J T := LawR_A h (hk 50 27 rfl) (fun x j a b => hk x j (kV_t (by omega)))
theorem listenR_z {X : Nat × (Nat → Int32)} {d : Nat} {M : zA} {R : zR} {P : zP} {A : zA} {N : Int → Int → Int} {n : Int} (hR : zRoR R) (hA : rN A = N) (hz : A 50 1 = n) (hN : zNr n N) {T : zX} (hT : LawR X A T) (hTr : Tok T) {p m l c s0 : Int} (hat : A 50 44 = p) (hnow : A 50 45 = m) (hp : 0 ≤ p ∧ p < n) (hm : 0 ≤ m ∧ m ≤ 1000) (hl : 0 ≤ l ∧ l ≤ 1000) (hc : 0 ≤ c ∧ c ≤ 99) (hs0 : 0 ≤ s0 ∧ s0 ≤ 1000000) : ∀ (j : Nat) (i s : Int) (JL : zA), zK kT (zU (zU A 69 p s) 70 p (l + i)) JL → 0 ≤ i → i + j = c → (0 ≤ s ∧ s ≤ s0) → (∀ JF : zA, zK kT (zU (zU A 69 p (lB T N p j s (l + i) (m + i))) 70 p (l + c)) JF → zW X (d + 20) 224 70 [some (.ref 50), some (zi c), some (zi (s0 - lB T N p j s (l + i) (m + i))), some (zi c)] [] JF M R P) → zW X (d + 20) 224 42 [some (.ref 50), some (zi c), some (zi (s0 - s)), some (zi i)] [] JL M R P := by
  intro j
  induction j with
  | zero =>
    intro i s JL hJ h0 hi hs K
    obtain rfl : i = c := by omega
    refine z_iload rfl rfl ?_
    refine z_iload rfl rfl ?_
    refine z_icmp_geT rfl (by omega) (by omega) (by omega) ?_
    exact K JL hJ
  | succ j ih =>
    intro i s JL hJ h0 hi hs K
    have q := zNn hN
    have r := @lf_r T N s p (l + i) (m + i) hs.1
    have hk : zK kV A (zU (zU A 69 p s) 70 p (l + i)) := zK_x (a := 70) (x := p) (v := l + i) (zK_x (a := 69) (x := p) (v := s) zK_r rfl) rfl
    have hA2 : rN (zU (zU A 69 p s) 70 p (l + i)) = N := (rN_V hk).trans hA
    have hT2 := LawR_V hT hk
    show zW _ _ _ _ [some (.ref 50), some (zi c), some (zi (s0 - s)), some (zi i)] _ _ _ _ _
    refine z_iload3 rfl ?_
    refine z_iload1 rfl ?_
    refine z_icmp_geF rfl (by omega) (by omega) (by omega) ?_
    refine z_iload2 rfl ?_
    refine z_aload0 rfl ?_
    refine z_aload0 rfl ?_
    refine z_getI (v := p) rfl gk_50 ((hJ 50 44 rfl).trans hat) ?_
    refine z_aload0 rfl ?_
    refine z_getI (v := m) rfl gk_50 ((hJ 50 45 rfl).trans hnow) ?_
    refine z_iload3 rfl ?_
    refine z_iadd (e := m + i) rfl rfl ?_
    refine z_callV (As := [_, _]) _ rfl rfl rfl (Nat.le_of_ble_eq_true rfl) (Nat.le_of_ble_eq_true rfl) (listensIn_k (p := p) (m := m + i) hR hJ hA2 hz hN hT2 hTr zU_69p zU_70p (by omega) (by omega) (by omega) (by omega)) (fun r J1 M2 R2 hr => ?_)
    obtain ⟨rfl, hJ1, rfl, rfl⟩ := hr
    rw [zU_69] at hJ1
    show zW _ _ _ _ _ (_ :: _) _ _ _ _
    refine z_iadd (e := (s0 - s) + (s - lf T N s p (l + i) (m + i))) rfl rfl ?_
    refine z_istore (ls1 := [some (.ref 50), some (zi c), some (zi ((s0 - s) + (s - lf T N s p (l + i) (m + i)))), some (zi i)]) rfl rfl ?_
    refine z_iinc (c := 1) (e := i + 1) (ls1 := [some (.ref 50), some (zi c), some (zi ((s0 - s) + (s - lf T N s p (l + i) (m + i)))), some (zi (i + 1))]) rfl rfl rfl rfl rfl ?_
    refine z_goto rfl ?_
    show zW _ _ _ _ [some (.ref 50), some (zi c), some (zi ((s0 - s) + (s - lf T N s p (l + i) (m + i)))), some (zi (i + 1))] [] _ _ _ _
    have e1 : (s0 - s) + (s - lf T N s p (l + i) (m + i)) = s0 - lf T N s p (l + i) (m + i) := by omega
    rw [e1]
    rw [show l + i + 1 = l + (i + 1) by omega] at hJ1
    refine ih (i + 1) (lf T N s p (l + i) (m + i)) _ hJ1 (by omega) (by omega) (by omega) (fun JF hF => ?_)
    have e2 : lB T N p j (lf T N s p (l + i) (m + i)) (l + (i + 1)) (m + (i + 1)) = lB T N p (j + 1) s (l + i) (m + i) := by
      rw [show l + (i + 1) = l + i + 1 by omega, show m + (i + 1) = m + i + 1 by omega]
      rfl
    rw [e2] at hF ⊢
    exact K JF hF
