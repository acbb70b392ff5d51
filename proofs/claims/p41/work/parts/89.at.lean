noncomputable def gro (T : zX) (N : Int → Int → Int) (S : tR) (p q : Int) : Int := if 999 < tst N S p + q then -2 else 1000 * (tsh S p - lB T N p q.toNat (tsh S p) (tli S p) (tst N S p)) / (sWay N (tat S) p + q)
theorem gro_0 {T : zX} {N : Int → Int → Int} {S : tR} {p q : Int} (h : 999 < tst N S p + q) : gro T N S p q = -2 := by unfold gro; rw [if_pos h]
theorem gro_1 {T : zX} {N : Int → Int → Int} {S : tR} {p q : Int} (h : ¬ 999 < tst N S p + q) : gro T N S p q = 1000 * (tsh S p - lB T N p q.toNat (tsh S p) (tli S p) (tst N S p)) / (sWay N (tat S) p + q) := by unfold gro; rw [if_neg h]
theorem gro_r {T : zX} {N : Int → Int → Int} {S : tR} {p q n k : Int} (hN : zNr n N) (hi : tI n S k) (hq : 1 ≤ q ∧ q ≤ 99) : (gro T N S p q = -2 ∨ 0 ≤ gro T N S p q) ∧ gro T N S p q ≤ 1000000000 := by
  by_cases h : 999 < tst N S p + q
  · rw [gro_0 h]; omega
  · rw [gro_1 h]
    have a := hi.1 p
    have l := @lB_r T N p q.toNat (tsh S p) (tli S p) (tst N S p) a.1
    have w := sWay_r hN (f := tat S) (p := p)
    have e1 : 0 ≤ 1000 * (tsh S p - lB T N p q.toNat (tsh S p) (tli S p) (tst N S p)) / (sWay N (tat S) p + q) := Int.ediv_nonneg (by omega) (by omega)
    have e2 : 1000 * (tsh S p - lB T N p q.toNat (tsh S p) (tli S p) (tst N S p)) / (sWay N (tat S) p + q) ≤ 1000 * (tsh S p - lB T N p q.toNat (tsh S p) (tli S p) (tst N S p)) := Int.ediv_le_self _ (by omega)
    exact ⟨Or.inr e1, by omega⟩
noncomputable def nx (g : Int → Int) : Nat → Int × Int
  | 0 => (-2, -2)
  | k + 1 => if (nx g k).2 < g k then ((k : Int), g k) else nx g k
theorem nx_1 {g : Int → Int} {k : Nat} (h : (nx g k).2 < g k) : nx g (k + 1) = ((k : Int), g k) := by
  show (if _ then _ else _) = _
  rw [if_pos h]
theorem nx_0 {g : Int → Int} {k : Nat} (h : ¬ (nx g k).2 < g k) : nx g (k + 1) = nx g k := by
  show (if _ then _ else _) = _
  rw [if_neg h]
theorem nx_r {g : Int → Int} (hg : ∀ p, (g p = -2 ∨ 0 ≤ g p) ∧ g p ≤ 1000000000) : ∀ k : Nat, ((nx g k).1 = -2 ∧ (nx g k).2 = -2) ∨ (0 ≤ (nx g k).1 ∧ (nx g k).1 ≤ k ∧ 0 ≤ (nx g k).2 ∧ (nx g k).2 ≤ 1000000000) := by
  intro k
  induction k with
  | zero => exact Or.inl ⟨rfl, rfl⟩
  | succ k ih =>
    have q := hg k
    by_cases h : (nx g k).2 < g k
    · rw [nx_1 h]
      refine Or.inr ⟨by show 0 ≤ (k : Int); omega, by show (k : Int) ≤ _; omega, ?_, q.2⟩
      show 0 ≤ g k
      rcases ih with c | c <;> omega
    · rw [nx_0 h]
      rcases ih with c | c
      · exact Or.inl c
      · exact Or.inr ⟨c.1, by omega, c.2.2⟩
/-- how many minutes' staying finds v at least each -/
noncomputable def sy (T : zX) (N : Int → Int → Int) (p l m v : Int) : Nat → Int → Int → Int
  | 0, i, _ => i
  | c + 1, i, s => if s - (if 999 ≤ m + i then s else lf T N s p (l + i) (m + i)) < v then i else sy T N p l m v c (i + 1) (if 999 ≤ m + i then s else lf T N s p (l + i) (m + i))
theorem sy_1 {T : zX} {N : Int → Int → Int} {p l m v i s : Int} {c : Nat} (h : s - (if 999 ≤ m + i then s else lf T N s p (l + i) (m + i)) < v) : sy T N p l m v (c + 1) i s = i := by
  show (if _ then _ else _) = _
  rw [if_pos h]
theorem sy_0 {T : zX} {N : Int → Int → Int} {p l m v i s : Int} {c : Nat} (h : ¬ s - (if 999 ≤ m + i then s else lf T N s p (l + i) (m + i)) < v) : sy T N p l m v (c + 1) i s = sy T N p l m v c (i + 1) (if 999 ≤ m + i then s else lf T N s p (l + i) (m + i)) := by
  show (if _ then _ else _) = _
  rw [if_neg h]
noncomputable def gu (g : Nat → Int) : Nat → Int × Int
  | 0 => (0, 0)
  | k + 1 => if (gu g k).2 < g k then ((k : Int) + 1, g k) else gu g k
theorem gu_1 {g : Nat → Int} {k : Nat} (h : (gu g k).2 < g k) : gu g (k + 1) = ((k : Int) + 1, g k) := by
  show (if _ then _ else _) = _
  rw [if_pos h]
theorem gu_0 {g : Nat → Int} {k : Nat} (h : ¬ (gu g k).2 < g k) : gu g (k + 1) = gu g k := by
  show (if _ then _ else _) = _
  rw [if_neg h]
theorem gu_r {g : Nat → Int} {K : Nat} (hg : ∀ k, k < K → g k ≤ 1000000000) : ∀ k : Nat, k ≤ K → (0 ≤ (gu g k).1 ∧ (gu g k).1 ≤ k) ∧ 0 ≤ (gu g k).2 ∧ (gu g k).2 ≤ 1000000000 := by
  intro k
  induction k with
  | zero => exact fun _ => ⟨⟨Int.le_refl 0, Int.le_refl 0⟩, Int.le_refl 0, (show (0 : Int) ≤ 1000000000 by decide)⟩
  | succ k ih =>
    intro hk
    have q := hg k (by omega)
    have r := ih (by omega)
    by_cases h : (gu g k).2 < g k
    · rw [gu_1 h]
      show (0 ≤ (k : Int) + 1 ∧ (k : Int) + 1 ≤ ((k + 1 : Nat) : Int)) ∧ 0 ≤ g k ∧ g k ≤ 1000000000
      omega
    · rw [gu_0 h]
      omega
theorem growthC_k {X : Nat × (Nat → Int32)} {d : Nat} {J M : zA} {R : zR} (hR : zRok R) {A : zA} {N : Int → Int → Int} {n : Int} (hJ : zK kT A J) (hA : cN A = N) (hz : A 8 2 = n) (hN : zNr n N) {T : zX} (hT : LawC X A R T) (hTr : Tok T) {S : tR} {K w : Int} (hc : cTr A S K w) (hi : tI n S 30) {p q : Int} (hp : 0 ≤ p ∧ p < n) (hq : 1 ≤ q ∧ q ≤ 99) : zW X (d + 7) 83 0 (gEn 83 [(.ref 10), (zi p), (zi q)]) [] J M R (zPk (gro T N S p q) A M R) := by
  have qn := zNn hN
  have qi := hi.2.2
  have ts : tst N S p = tmi S + sWay N (tat S) p := rfl
  show zW _ _ _ _ [some (.ref 10), some (zi p), some (zi q), none, none, none, none] _ _ _ _ _
  refine z_aload0 rfl ?_
  refine z_getR (r := 8) rfl gk_10 (hR _ rm_10_0) ?_
  refine z_aload0 rfl ?_
  refine z_getI (v := tat S) rfl gk_10 ((hJ 10 11 rfl).trans hc.2.2.2.1) ?_
  refine z_iload1 rfl ?_
  refine z_callVP (As := [_, _]) (v := sWay N (tat S) p) rfl rfl gk_8 (Nat.le_of_ble_eq_true rfl) (Nat.le_of_ble_eq_true rfl) (way_k hR hJ hA hz hN (by omega) (by omega)) ?_
  have q1 := sWay_r hN (f := tat S) (p := p)
  refine z_istore (ls1 := [some (.ref 10), some (zi p), some (zi q), some (zi (sWay N (tat S) p)), none, none, none]) rfl rfl ?_
  refine z_aload0 rfl ?_
  refine z_getI (v := tmi S) rfl gk_10 ((hJ 10 10 rfl).trans hc.2.2.1) ?_
  refine z_iload3 rfl ?_
  refine z_iadd (e := (tmi S) + (sWay N (tat S) p)) rfl rfl ?_
  refine z_istore (ls1 := [some (.ref 10), some (zi p), some (zi q), some (zi (sWay N (tat S) p)), some (zi ((tmi S) + (sWay N (tat S) p))), none, none]) rfl rfl ?_
  refine z_iload3 rfl ?_
  refine z_iload2 rfl ?_
  refine z_iadd (e := (sWay N (tat S) p) + q) rfl rfl ?_
  refine z_istore (ls1 := [some (.ref 10), some (zi p), some (zi q), some (zi (sWay N (tat S) p)), some (zi ((tmi S) + (sWay N (tat S) p))), some (zi ((sWay N (tat S) p) + q)), none]) rfl rfl ?_
  refine z_iload4 rfl ?_
  refine z_iload2 rfl ?_
  refine z_iadd (e := (tmi S) + (sWay N (tat S) p) + q) rfl rfl ?_
  refine z_pushJ gp_83_30 ?_
  refine z_icmp_gt rfl (by omega) (by decide) (fun h2 => ?_) (fun h2 => ?_)
  · refine z_pushJ gp_83_41 ?_
    refine z_iret rfl gr_83 ?_
    refine ⟨congrArg (fun v => some (zi v)) (gro_0 (by first | omega | (exfalso; omega))).symm, hJ, rfl, rfl⟩
  · refine z_iload5 rfl ?_
    refine z_if_gtT rfl (by omega) (by omega) ?_
    refine z_aload0 rfl ?_
    refine z_getR (r := 8) rfl gk_10 (hR _ rm_10_0) ?_
    refine z_iload2 rfl ?_
    refine z_aload0 rfl ?_
    refine z_getR (r := 11) rfl gk_10 (hR _ rm_10_1) ?_
    refine z_iload1 rfl ?_
    have q3 := hi.1 p
    refine z_iald (v := tsh S p) rfl gk_11 (by decide) (by omega) ((hJ 11 _ rfl).trans (hc.2.2.2.2.2.2.1 _ (by omega) (by omega))) ?_
    refine z_iload1 rfl ?_
    refine z_aload0 rfl ?_
    refine z_getR (r := 12) rfl gk_10 (hR _ rm_10_2) ?_
    refine z_iload1 rfl ?_
    have q4 := hi.2.1 p
    refine z_iald (v := tli S p) rfl gk_12 (by decide) (by omega) ((hJ 12 _ rfl).trans (hc.2.2.2.2.2.2.2 _ (by omega) (by omega))) ?_
    refine z_iload4 rfl ?_
    refine z_callVk (As := [_, _, _, _, _]) (v := lB T N p q.toNat (tsh S p) (tli S p) (tst N S p)) rfl rfl gk_8 (Nat.le_of_ble_eq_true rfl) (Nat.le_of_ble_eq_true rfl) (leftBehind_k hR hJ hA hz hN hT hTr (by omega) (by omega) (by omega) (by omega) (by omega)) (fun J2 hJ2 => ?_)
    have ql := @lB_r T N p q.toNat (tsh S p) (tli S p) (tst N S p) (by omega)
    refine z_istore (ls1 := [some (.ref 10), some (zi p), some (zi q), some (zi (sWay N (tat S) p)), some (zi ((tmi S) + (sWay N (tat S) p))), some (zi ((sWay N (tat S) p) + q)), some (zi (lB T N p q.toNat (tsh S p) (tli S p) (tst N S p)))]) rfl rfl ?_
    refine z_pushJ gp_83_69 ?_
    refine z_aload0 rfl ?_
    refine z_getR (r := 11) rfl gk_10 (hR _ rm_10_1) ?_
    refine z_iload1 rfl ?_
    have q5 := hi.1 p
    refine z_iald (v := tsh S p) rfl gk_11 (by decide) (by omega) ((hJ2 11 _ rfl).trans (hc.2.2.2.2.2.2.1 _ (by omega) (by omega))) ?_
    refine z_iload6 rfl ?_
    refine z_isub (e := (tsh S p) - (lB T N p q.toNat (tsh S p) (tli S p) (tst N S p))) rfl rfl ?_
    refine z_imul (e := 1000 * ((tsh S p) - (lB T N p q.toNat (tsh S p) (tli S p) (tst N S p)))) rfl rfl ?_
    refine z_iload5 rfl ?_
    refine z_idiv (e := 1000 * ((tsh S p) - (lB T N p q.toNat (tsh S p) (tli S p) (tst N S p))) / ((sWay N (tat S) p) + q)) rfl (by omega) (by omega) rfl ?_
    refine z_iret rfl gr_83 ?_
    refine ⟨congrArg (fun v => some (zi v)) (gro_1 (by omega)).symm, hJ2, rfl, rfl⟩
theorem nextC_z {X : Nat × (Nat → Int32)} {d : Nat} {M : zA} {R : zR} {P : zP} (hR : zRok R) {A : zA} {N : Int → Int → Int} {n : Int} (hA : cN A = N) (hz : A 8 2 = n) (hN : zNr n N) {T : zX} (hT : LawC X A R T) (hTr : Tok T) {S : tR} {K w : Int} (hc : cTr A S K w) (hi : tI n S 30) {s q v : Int} (hq : 1 ≤ q ∧ q ≤ 99) (K2 : (∀ (e8 : Option Value) (J2 : zA), zK kT A J2 → zW X (d + 8) 112 102 [some (.ref 0), some (zi s), some (zi q), some (zi v), some (zi 0), some (zi ((nx (fun p => gro T N S p q) n.toNat).2)), some (zi ((nx (fun p => gro T N S p q) n.toNat).1)), some (zi n), e8] [] J2 M R P)) : ∀ (j k : Nat) (e8 : Option Value) (J : zA), zK kT A J → (k : Int) + j = n → zW X (d + 8) 112 57 [some (.ref 0), some (zi s), some (zi q), some (zi v), some (zi 0), some (zi ((nx (fun p => gro T N S p q) k).2)), some (zi ((nx (fun p => gro T N S p q) k).1)), some (zi (k : Int)), e8] [] J M R P := by
  have qn := zNn hN
  have hgr : ∀ p, (gro T N S p q = -2 ∨ 0 ≤ gro T N S p q) ∧ gro T N S p q ≤ 1000000000 := fun p => gro_r hN hi hq
  intro j
  induction j with
  | zero =>
    intro k e8 J hJ hk
    refine z_iload rfl rfl ?_
    refine z_aload rfl rfl ?_
    refine z_getR (r := 8) rfl rfl (hR _ rm_0_1) ?_
    refine z_getI (v := n) rfl rfl ((hJ 8 2 rfl).trans hz) ?_
    refine z_icmp_geT rfl (by omega) (by omega) (by omega) ?_
    obtain rfl : n = (k : Int) := by omega
    exact K2 e8 J hJ
  | succ j ih =>
    intro k e8 J hJ hk
    have gk := @nx_r (fun p => gro T N S p q) hgr k
    have gp := hgr (k : Int)
    refine z_iload7 rfl ?_
    refine z_aload0 rfl ?_
    refine z_getR (r := 8) rfl gk_0 (hR _ rm_0_1) ?_
    refine z_getI (v := n) rfl gk_8 ((hJ 8 2 rfl).trans hz) ?_
    refine z_icmp_geF rfl (by omega) (by omega) (by omega) ?_
    refine z_aload0 rfl ?_
    refine z_getR (r := 10) rfl gk_0 (hR _ rm_0_2) ?_
    refine z_iload7 rfl ?_
    refine z_iload2 rfl ?_
    refine z_callVk (As := [_, _]) (v := gro T N S (k : Int) q) rfl rfl gk_10 (Nat.le_of_ble_eq_true rfl) (Nat.le_of_ble_eq_true rfl) (growthC_k hR hJ hA hz hN hT hTr hc hi (by omega) hq) (fun J2 hJ2 => ?_)
    refine z_istore (ls1 := [some (.ref 0), some (zi s), some (zi q), some (zi v), some (zi 0), some (zi ((nx (fun p => gro T N S p q) k).2)), some (zi ((nx (fun p => gro T N S p q) k).1)), some (zi (k : Int)), some (zi (gro T N S (k : Int) q))]) rfl rfl ?_
    refine z_iload8 rfl ?_
    refine z_iload5 rfl ?_
    refine z_icmp_le rfl (by omega) (by omega) (fun h1 => ?_) (fun h1 => ?_)
    · refine z_iinc (c := 1) (e := (k : Int) + 1) (ls1 := [some (.ref 0), some (zi s), some (zi q), some (zi v), some (zi 0), some (zi ((nx (fun p => gro T N S p q) k).2)), some (zi ((nx (fun p => gro T N S p q) k).1)), some (zi ((k : Int) + 1)), some (zi (gro T N S (k : Int) q))]) gi_112_96 rfl rfl rfl rfl ?_
      refine z_goto gi_112_99 ?_
      show zW _ _ _ _ [some (.ref 0), some (zi s), some (zi q), some (zi v), some (zi 0), some (zi ((nx (fun p => gro T N S p q) k).2)), some (zi ((nx (fun p => gro T N S p q) k).1)), some (zi ((k : Int) + 1)), some (zi (gro T N S (k : Int) q))] [] _ _ _ _
      have hg := ih (k + 1) (some (zi (gro T N S (k : Int) q))) J2 hJ2 (by omega)
      rw [nx_0 (g := (fun p => gro T N S p q)) (k := k) (by show ¬ (nx (fun p => gro T N S p q) k).2 < gro T N S (k : Int) q; omega)] at hg
      exact hg
    · refine z_iload8 rfl ?_
      refine z_istore (ls1 := [some (.ref 0), some (zi s), some (zi q), some (zi v), some (zi 0), some (zi (gro T N S (k : Int) q)), some (zi ((nx (fun p => gro T N S p q) k).1)), some (zi (k : Int)), some (zi (gro T N S (k : Int) q))]) rfl rfl ?_
      refine z_iload7 rfl ?_
      refine z_istore (ls1 := [some (.ref 0), some (zi s), some (zi q), some (zi v), some (zi 0), some (zi (gro T N S (k : Int) q)), some (zi (k : Int)), some (zi (k : Int)), some (zi (gro T N S (k : Int) q))]) rfl rfl ?_
      refine z_iinc (c := 1) (e := (k : Int) + 1) (ls1 := [some (.ref 0), some (zi s), some (zi q), some (zi v), some (zi 0), some (zi (gro T N S (k : Int) q)), some (zi (k : Int)), some (zi ((k : Int) + 1)), some (zi (gro T N S (k : Int) q))]) gi_112_96 rfl rfl rfl rfl ?_
      refine z_goto gi_112_99 ?_
      show zW _ _ _ _ [some (.ref 0), some (zi s), some (zi q), some (zi v), some (zi 0), some (zi (gro T N S (k : Int) q)), some (zi (k : Int)), some (zi ((k : Int) + 1)), some (zi (gro T N S (k : Int) q))] [] _ _ _ _
      have hg := ih (k + 1) (some (zi (gro T N S (k : Int) q))) J2 hJ2 (by omega)
      rw [nx_1 (g := (fun p => gro T N S p q)) (k := k) (by show (nx (fun p => gro T N S p q) k).2 < gro T N S (k : Int) q; omega)] at hg
      exact hg
theorem growthR_z {X : Nat × (Nat → Int32)} {d : Nat} {M : zA} {R : zR} {P : zP} {A : zA} {N : Int → Int → Int} {n : Int} (hR : zRoR R) (hA : rN A = N) (hz : A 50 1 = n) (hN : zNr n N) {T : zX} (hT : LawR X A T) (hTr : Tok T) {p m l q s0 : Int} (hp : 0 ≤ p ∧ p < n) (hm : 0 ≤ m ∧ m ≤ 1200) (hl : 0 ≤ l ∧ l ≤ 3000) (hq : 0 ≤ q ∧ q ≤ 99) (hs0 : 0 ≤ s0 ∧ s0 ≤ 1000000) : ∀ (j : Nat) (i s : Int) (JL : zA), zK kT (zU (zU A 69 p s) 70 p (l + i)) JL → 0 ≤ i → i + j = q → (0 ≤ s ∧ s ≤ s0) → (∀ JF : zA, zK kT (zU (zU A 69 p (lB T N p j s (l + i) (m + i))) 70 p (l + q)) JF → zW X (d + 7) 201 60 [some (.ref 50), some (zi p), some (zi q), some (zi s0), some (zi l), some (zi (s0 - lB T N p j s (l + i) (m + i))), some (zi m), some (zi q)] [] JF M R P) → zW X (d + 7) 201 33 [some (.ref 50), some (zi p), some (zi q), some (zi s0), some (zi l), some (zi (s0 - s)), some (zi m), some (zi i)] [] JL M R P := by
  intro j
  induction j with
  | zero =>
    intro i s JL hJ h0 hi hs K
    obtain rfl : i = q := by omega
    refine z_iload rfl rfl ?_
    refine z_iload rfl rfl ?_
    refine z_icmp_geT rfl (by omega) (by omega) (by omega) ?_
    exact K JL hJ
  | succ j ih =>
    intro i s JL hJ h0 hi hs K
    have qn := zNn hN
    have r := @lf_r T N s p (l + i) (m + i) hs.1
    have hk : zK kV A (zU (zU A 69 p s) 70 p (l + i)) := zK_x (a := 70) (x := p) (v := l + i) (zK_x (a := 69) (x := p) (v := s) zK_r rfl) rfl
    have hA2 : rN (zU (zU A 69 p s) 70 p (l + i)) = N := (rN_V hk).trans hA
    have hT2 := LawR_V hT hk
    refine z_iload7 rfl ?_
    refine z_iload2 rfl ?_
    refine z_icmp_geF rfl (by omega) (by omega) (by omega) ?_
    refine z_iload5 rfl ?_
    refine z_aload0 rfl ?_
    refine z_iload1 rfl ?_
    refine z_iload6 rfl ?_
    refine z_iload7 rfl ?_
    refine z_iadd (e := m + i) rfl rfl ?_
    refine z_callV (As := [_, _]) _ rfl rfl rfl (Nat.le_of_ble_eq_true rfl) (Nat.le_of_ble_eq_true rfl) (listensIn_k (p := p) (m := m + i) hR hJ hA2 hz hN hT2 hTr zU_69p zU_70p (by omega) (by omega) (by omega) (by omega)) (fun r J2 M2 R2 hr => ?_)
    obtain ⟨rfl, hJ2, rfl, rfl⟩ := hr
    rw [zU_69] at hJ2
    show zW _ _ _ _ _ (_ :: _) _ _ _ _
    refine z_iadd (e := (s0 - s) + (s - lf T N s p (l + i) (m + i))) rfl rfl ?_
    refine z_istore (ls1 := [some (.ref 50), some (zi p), some (zi q), some (zi s0), some (zi l), some (zi ((s0 - s) + (s - lf T N s p (l + i) (m + i)))), some (zi m), some (zi i)]) rfl rfl ?_
    refine z_iinc (c := 1) (e := i + 1) (ls1 := [some (.ref 50), some (zi p), some (zi q), some (zi s0), some (zi l), some (zi ((s0 - s) + (s - lf T N s p (l + i) (m + i)))), some (zi m), some (zi (i + 1))]) rfl rfl rfl rfl rfl ?_
    refine z_goto rfl ?_
    show zW _ _ _ _ [some (.ref 50), some (zi p), some (zi q), some (zi s0), some (zi l), some (zi ((s0 - s) + (s - lf T N s p (l + i) (m + i)))), some (zi m), some (zi (i + 1))] [] _ _ _ _
    have e1 : (s0 - s) + (s - lf T N s p (l + i) (m + i)) = s0 - lf T N s p (l + i) (m + i) := by omega
    rw [e1]
    rw [show l + i + 1 = l + (i + 1) by omega] at hJ2
    refine ih (i + 1) (lf T N s p (l + i) (m + i)) _ hJ2 (by omega) (by omega) (by omega) (fun JF hF => ?_)
    have e2 : lB T N p j (lf T N s p (l + i) (m + i)) (l + (i + 1)) (m + (i + 1)) = lB T N p (j + 1) s (l + i) (m + i) := by
      rw [show l + (i + 1) = l + i + 1 by omega, show m + (i + 1) = m + i + 1 by omega]
      rfl
    rw [e2] at hF ⊢
    exact K JF hF
/-- the reference's round -/
def rTg (J : zA) (n : Int) (S : tR) (g : Int) : Prop := J 50 33 = g ∧ J 50 30 = tat S ∧ J 50 31 = tmi S ∧ J 50 32 = tfo S ∧ (∀ p, 0 ≤ p → p < n → J 69 p = tsh S p) ∧ (∀ p, 0 ≤ p → p < n → J 70 p = tli S p)
theorem wayTo_g {X : Nat × (Nat → Int32)} {d : Nat} {J A M : zA} {R : zR} {N : Int → Int → Int} {n a p : Int} (hR : zRoR R) (hJ : zK kT A J) (hA : rN A = N) (hz : A 50 1 = n) (hN : zNr n N) (ha : A 50 30 = a) (hp : 0 ≤ p ∧ p < n) (h1 : -1 ≤ a ∧ a < n) : zW X (d + 3) 188 0 (gEn 188 [.ref 50, zi p]) [] J M R (zPu (sWay N a p) J M R) := by
  have h := @wayTo_k X d J M R A N n hR hJ hA hz hN p hp (by rw [ha]; exact h1)
  rw [ha] at h
  exact h
theorem growthR_k {X : Nat × (Nat → Int32)} {d : Nat} {J M : zA} {R : zR} {P : zP} {A : zA} {N : Int → Int → Int} {n : Int} (hR : zRoR R) (hJ : zK kT A J) (hA : rN A = N) (hz : A 50 1 = n) (hN : zNr n N) {T : zX} (hT : LawR X A T) (hTr : Tok T) {p m l q s0 : Int} (h69 : A 69 p = s0) (h70 : A 70 p = l) (hp : 0 ≤ p ∧ p < n) (hm : 0 ≤ m ∧ m ≤ 1200) (hl : 0 ≤ l ∧ l ≤ 3000) (hq : 0 ≤ q ∧ q ≤ 99) (hs0 : 0 ≤ s0 ∧ s0 ≤ 1000000) (K : ∀ JF : zA, zK kT (zU (zU A 69 p (lB T N p q.toNat s0 l m)) 70 p (l + q)) JF → zW X (d + 7) 201 60 [some (.ref 50), some (zi p), some (zi q), some (zi s0), some (zi l), some (zi (s0 - lB T N p q.toNat s0 l m)), some (zi m), some (zi q)] [] JF M R P) : zW X (d + 7) 201 33 [some (.ref 50), some (zi p), some (zi q), some (zi s0), some (zi l), some (zi 0), some (zi m), some (zi 0)] [] J M R P := by
  have z : zW X (d + 7) 201 33 [some (.ref 50), some (zi p), some (zi q), some (zi s0), some (zi l), some (zi (s0 - s0)), some (zi m), some (zi 0)] [] J M R P := by
    refine growthR_z hR hA hz hN hT hTr (m := m) hp hm hl hq hs0 q.toNat 0 s0 J ?_ (by omega) (by omega) (by omega) (fun JF hF => ?_)
    · rw [show l + 0 = l by omega, zU_id h69, zU_id h70]
      exact hJ
    · rw [show l + 0 = l by omega, show m + 0 = m by omega] at *
      exact K JF hF
  rw [show s0 - s0 = 0 by omega] at z
  exact z
theorem growR_k {X : Nat × (Nat → Int32)} {d : Nat} {J M : zA} {R : zR} (hR : zRoR R) {A : zA} {N : Int → Int → Int} {n : Int} (hJ : zK kT A J) (hA : rN A = N) (hz : A 50 1 = n) (hN : zNr n N) {T : zX} (hT : LawR X A T) (hTr : Tok T) {S : tR} {g : Int} (hc : rTg A n S g) (hi : tI n S 30) {p q : Int} (hp : 0 ≤ p ∧ p < n) (hq : 1 ≤ q ∧ q ≤ 99) (ht : tst N S p + q ≤ 999) : zW X (d + 7) 201 0 (gEn 201 [(.ref 50), (zi p), (zi q)]) [] J M R (zPk (tsh S p - lB T N p q.toNat (tsh S p) (tli S p) (tst N S p)) A M R) := by
  have qn := zNn hN
  have qi := hi.2.2
  have ts : tst N S p = tmi S + sWay N (tat S) p := rfl
  show zW _ _ _ _ [some (.ref 50), some (zi p), some (zi q), none, none, none, none, none] _ _ _ _ _
  refine z_aload0 rfl ?_
  refine z_getR (r := 69) rfl gk_50 (hR _ rm_50_28 (by decide)) ?_
  refine z_iload1 rfl ?_
  have q1 := hi.1 p
  refine z_iald (v := tsh S p) rfl gk_69 (by decide) (by omega) ((hJ 69 _ rfl).trans (hc.2.2.2.2.1 _ (by omega) (by omega))) ?_
  refine z_istore (ls1 := [some (.ref 50), some (zi p), some (zi q), some (zi (tsh S p)), none, none, none, none]) rfl rfl ?_
  refine z_aload0 rfl ?_
  refine z_getR (r := 70) rfl gk_50 (hR _ rm_50_29 (by decide)) ?_
  refine z_iload1 rfl ?_
  have q2 := hi.2.1 p
  refine z_iald (v := tli S p) rfl gk_70 (by decide) (by omega) ((hJ 70 _ rfl).trans (hc.2.2.2.2.2 _ (by omega) (by omega))) ?_
  refine z_istore (ls1 := [some (.ref 50), some (zi p), some (zi q), some (zi (tsh S p)), some (zi (tli S p)), none, none, none]) rfl rfl ?_
  refine z_pushJ gp_201_15 ?_
  refine z_istore (ls1 := [some (.ref 50), some (zi p), some (zi q), some (zi (tsh S p)), some (zi (tli S p)), some (zi 0), none, none]) rfl rfl ?_
  refine z_aload0 rfl ?_
  refine z_getI (v := tmi S) rfl gk_50 ((hJ 50 31 rfl).trans hc.2.2.1) ?_
  refine z_aload0 rfl ?_
  refine z_iload1 rfl ?_
  refine z_callVP (As := [_]) (v := sWay N (tat S) p) rfl rfl gk_50 (Nat.le_of_ble_eq_true rfl) (Nat.le_of_ble_eq_true rfl) (wayTo_g hR hJ hA hz hN hc.2.1 (by omega) (by omega)) ?_
  have q3 := sWay_r hN (f := tat S) (p := p)
  refine z_iadd (e := (tmi S) + (sWay N (tat S) p)) rfl rfl ?_
  refine z_istore (ls1 := [some (.ref 50), some (zi p), some (zi q), some (zi (tsh S p)), some (zi (tli S p)), some (zi 0), some (zi ((tmi S) + (sWay N (tat S) p))), none]) rfl rfl ?_
  refine z_pushJ gp_201_30 ?_
  refine z_istore (ls1 := [some (.ref 50), some (zi p), some (zi q), some (zi (tsh S p)), some (zi (tli S p)), some (zi 0), some (zi ((tmi S) + (sWay N (tat S) p))), some (zi 0)]) rfl rfl ?_
  show zW _ _ _ _ [some (.ref 50), some (zi p), some (zi q), some (zi (tsh S p)), some (zi (tli S p)), some (zi 0), some (zi ((tmi S) + (sWay N (tat S) p))), some (zi 0)] [] _ _ _ _
  refine growthR_k (A := A) (N := N) (n := n) (T := T) (s0 := tsh S p) (l := tli S p) (m := tmi S + sWay N (tat S) p) hR hJ hA hz hN hT hTr (hc.2.2.2.2.1 _ (by omega) (by omega)) (hc.2.2.2.2.2 _ (by omega) (by omega)) (by omega) (by omega) (by omega) (by omega) (by omega) (fun JF hF => ?_)
  refine z_aload0 rfl ?_
  refine z_getR (r := 69) rfl gk_50 (hR _ rm_50_28 (by decide)) ?_
  refine z_iload1 rfl ?_
  refine z_iload3 rfl ?_
  refine z_iast (e := tsh S p) rfl gk_69 (by decide) (by omega) rfl ?_
  refine z_aload0 rfl ?_
  refine z_getR (r := 70) rfl gk_50 (hR _ rm_50_29 (by decide)) ?_
  refine z_iload1 rfl ?_
  refine z_iload4 rfl ?_
  refine z_iast (e := tli S p) rfl gk_70 (by decide) (by omega) rfl ?_
  refine z_iload5 rfl ?_
  refine z_iret rfl gr_201 ?_
  refine ⟨rfl, ?_, rfl, rfl⟩
  have hk := zK_u (a := 70) (x := p) (v := tli S p) (zK_u (a := 69) (x := p) (v := tsh S p) hF)
  rw [zU_69, zU_id (hc.2.2.2.2.1 _ (by omega) (by omega)), zU_id (hc.2.2.2.2.2 _ (by omega) (by omega))] at hk
  exact hk
