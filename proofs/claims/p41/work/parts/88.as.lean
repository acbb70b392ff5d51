theorem tS_w {T : zX} {N : Int → Int → Int} {n : Int} {b : Int → Int} (w v : Int) : ∀ k : Nat, tsh (tS T N n b w k) = tsh (tS T N n b v k) ∧ tli (tS T N n b w k) = tli (tS T N n b v k) ∧ tat (tS T N n b w k) = tat (tS T N n b v k) ∧ tmi (tS T N n b w k) = tmi (tS T N n b v k) ∧ tfo (tS T N n b w k) = tfo (tS T N n b v k) := by
  intro k
  induction k with
  | zero => exact ⟨rfl, rfl, rfl, rfl, rfl⟩
  | succ k ih =>
    obtain ⟨a, c, d, e, f⟩ := ih
    have ts : ∀ p, tst N (tS T N n b w k) p = tst N (tS T N n b v k) p := fun p => by unfold tst; rw [d, e]
    have h : ∀ u, tS T N n b u (k + 1) = tN T N u (tS T N n b u k) (b (2 * k)) (b (2 * k + 1)) := fun u => rfl
    rw [h w, h v]
    refine ⟨?_, ?_, rfl, ?_, ?_⟩
    · show fset _ _ _ = fset _ _ _
      rw [a, c, ts]
    · show fset _ _ _ = fset _ _ _
      rw [c]
    · show tst N _ _ + _ = tst N _ _ + _
      rw [ts]
    · show tfo _ + _ = tfo _ + _
      rw [f, a, c, ts]
theorem tOk_w {T : zX} {N : Int → Int → Int} {n : Int} {b : Int → Int} {z : Int} {w : Int} (v : Int) {k : Nat} (h : tOk T N n b w z k) : tOk T N n b v z k := by
  obtain ⟨a, c, d, e⟩ := h
  refine ⟨a, c, d, ?_⟩
  have q := @tS_w T N n b w v k
  unfold tst at e ⊢
  rw [← q.2.2.2.1, ← q.2.2.1]
  exact e
theorem tEnd_w {T : zX} {N : Int → Int → Int} {n : Int} {b : Int → Int} {z : Int} {w v : Int} {K L : Nat} (h : tEnd T N n b w z K) (g : tEnd T N n b v z L) : K = L := by
  refine tEnd_u h ⟨fun k hk => tOk_w w (g.1 k hk), fun q => g.2 (tOk_w v q)⟩
theorem tS_z {T : zX} {N : Int → Int → Int} {n : Int} {b : Int → Int} {z : Int} {w : Int} : ∀ k : Nat, (∀ i, i < k → tOk T N n b w z i) → ∀ p, n ≤ p → tsh (tS T N n b w k) p = 0 := by
  intro k
  induction k with
  | zero =>
    intro _ p hp
    show (if 0 ≤ p ∧ p < n then sShare N n p else 0) = 0
    rw [if_neg (by omega)]
  | succ k ih =>
    intro h p hp
    have q := (h k (by omega)).2.1
    show (if p = b (2 * k) then _ else tsh (tS T N n b w k) p) = 0
    rw [if_neg (by omega)]
    exact ih (fun i hi => h i (by omega)) p hp
theorem kS_Pw {A J : zA} (h : zK kP A J) (hw : J 10 12 = A 10 12) : zK kS A J := fun x j q => by
  by_cases e : x = 10
  · subst e
    have e2 : j = 12 := of_decide_eq_true (show decide (j = 12) = true from q)
    rw [e2]
    exact hw
  · refine h x j (kP_o (kS_T x j q) ?_)
    by_cases c : x < 10 ∨ 17 < x
    · exact c
    · exfalso
      unfold kS at q
      rw [beq_f (n := 1) (by omega), beq_f (n := 34) (by omega), beq_f (n := 50) (by omega), beq_f (n := 10) (by omega), Nat.ble_eq_true_of_le (show 10 ≤ x by omega), Nat.ble_eq_true_of_le (show x ≤ 22 by omega)] at q
      revert q
      cases x.beq 7 <;> exact fun q => Bool.noConfusion (show false = true from q)
theorem kV_P : ∀ x j, kV x j = true → kP x j = true := by
  intro x j h
  unfold kV at h
  by_cases e : x = 50
  · subst e
    rfl
  · rw [beq_f e] at h
    have h2 := Bool.and_eq_true _ _ ▸ h
    have h3 := Nat.le_of_ble_eq_true h2.1
    have h4 := Nat.le_of_ble_eq_true h2.2
    exact kP_b (by omega)
/-- the reference's round, whatever the mark was -/
theorem rT_w {T : zX} {N : Int → Int → Int} {n : Int} {b : Int → Int} {J : zA} {w v g : Int} {K : Nat} {S : tR} (eS : S = tS T N n b w K) (h : rTr J n (tS T N n b v K) v g) : J 50 33 = g ∧ J 50 30 = tat S ∧ J 50 31 = tmi S ∧ J 50 32 = tfo S ∧ (∀ p, 0 ≤ p → p < n → J 69 p = tsh S p) ∧ (∀ p, 0 ≤ p → p < n → J 70 p = tli S p) := by
  obtain ⟨h1, h2, h3, h4, h5, h6, h7, h8⟩ := h
  obtain ⟨a, c, d, e, f⟩ := @tS_w T N n b w v K
  subst eS
  rw [a, c, d, e, f]
  exact ⟨h1, h2, h3, h4, h7, h8⟩
noncomputable def sm (f : Int → Int) : Nat → Int
  | 0 => 0
  | k + 1 => sm f k + f k
noncomputable def lk (f : Int → Int) : Nat → Int × Int
  | 0 => (-2, 0)
  | k + 1 => if (lk f k).2 < f k then ((k : Int), f k) else lk f k
theorem lk_1 {f : Int → Int} {k : Nat} (h : (lk f k).2 < f k) : lk f (k + 1) = ((k : Int), f k) := by
  show (if _ then _ else _) = _
  rw [if_pos h]
theorem lk_0 {f : Int → Int} {k : Nat} (h : ¬ (lk f k).2 < f k) : lk f (k + 1) = lk f k := by
  show (if _ then _ else _) = _
  rw [if_neg h]
theorem lk_r {f : Int → Int} : ∀ k : Nat, ((lk f k).1 = -2 ∧ (lk f k).2 = 0) ∨ (0 ≤ (lk f k).1 ∧ (lk f k).1 < k ∧ (lk f k).2 = f (lk f k).1 ∧ 0 < (lk f k).2) := by
  intro k
  induction k with
  | zero => exact Or.inl ⟨rfl, rfl⟩
  | succ k ih =>
    by_cases h : (lk f k).2 < f k
    · rw [lk_1 h]
      exact Or.inr ⟨by show 0 ≤ (k : Int); omega, by show (k : Int) < _; omega, rfl, by show 0 < f k; omega⟩
    · rw [lk_0 h]
      rcases ih with q | ⟨a, b, c, d⟩
      · exact Or.inl q
      · exact Or.inr ⟨a, by omega, c, d⟩
theorem lk_b {f : Int → Int} (hf : ∀ p, 0 ≤ f p ∧ f p ≤ 1000000) (k : Nat) : (-2 ≤ (lk f k).1 ∧ (lk f k).1 ≤ k) ∧ 0 ≤ (lk f k).2 ∧ (lk f k).2 ≤ 1000000 := by
  rcases @lk_r f k with ⟨a, b⟩ | ⟨a, b, c, d⟩
  · rw [a, b]; omega
  · have := hf (lk f k).1
    omega
theorem sm_r {f : Int → Int} (hf : ∀ p, 0 ≤ f p ∧ f p ≤ 1000000) : ∀ k : Nat, 0 ≤ sm f k ∧ sm f k ≤ 1000000 * k := by
  intro k
  induction k with
  | zero => exact ⟨Int.le_refl 0, Int.le_refl 0⟩
  | succ k ih =>
    have := hf k
    show 0 ≤ sm f k + f k ∧ sm f k + f k ≤ _
    omega
theorem sm_p {f : Int → Int} (hf : ∀ p, 0 ≤ f p ∧ f p ≤ 1000000) {p : Int} (hp : 0 ≤ p) : ∀ k : Nat, p < k → f p ≤ sm f k := by
  intro k
  induction k with
  | zero => intro h; omega
  | succ k ih =>
    intro h
    show f p ≤ sm f k + f k
    have q := sm_r hf k
    by_cases e : p = k
    · rw [e]; omega
    · have := ih (by omega)
      have := hf k
      omega
theorem sm_z {f : Int → Int} {n : Int} (hn : 0 ≤ n ∧ n ≤ 8) (h : ∀ p, n ≤ p → f p = 0) : sm f 8 = sm f n.toNat := by
  have g : ∀ j : Nat, sm f (n.toNat + j) = sm f n.toNat := by
    intro j
    induction j with
    | zero => rfl
    | succ j ih =>
      show sm f (n.toNat + j) + f ((n.toNat + j : Nat) : Int) = _
      rw [ih, h _ (by omega), Int.add_zero]
  have e : (8 : Nat) = n.toNat + (8 - n.toNat) := by omega
  rw [e]
  exact g _
theorem lk_z {f : Int → Int} {n : Int} (hn : 0 ≤ n ∧ n ≤ 8) (h : ∀ p, n ≤ p → f p = 0) : lk f 8 = lk f n.toNat := by
  have g : ∀ j : Nat, lk f (n.toNat + j) = lk f n.toNat := by
    intro j
    induction j with
    | zero => rfl
    | succ j ih =>
      have e : lk f (n.toNat + (j + 1)) = lk f (n.toNat + j) := by
        have h0 := h ((n.toNat + j : Nat) : Int) (by omega)
        refine lk_0 (k := n.toNat + j) ?_
        rw [h0]
        rcases @lk_r f (n.toNat + j) with ⟨a, b⟩ | ⟨a, b, c, d⟩ <;> omega
      rw [e, ih]
  have e : (8 : Nat) = n.toNat + (8 - n.toNat) := by omega
  rw [e]
  exact g _
theorem likC_z {X : Nat × (Nat → Int32)} {d : Nat} {J M : zA} {R : zR} (hR : zRok R) {f : Int → Int} (hf : ∀ p, 0 ≤ p → p < 8 → J 11 p = f p) (hfr : ∀ p, 0 ≤ f p ∧ f p ≤ 1000000) : ∀ (j k : Nat), (k : Int) + j = 8 → zW X (d + 3) 81 7 [some (.ref 10), some (zi ((lk f k).1)), some (zi ((lk f k).2)), some (zi (k : Int))] [] J M R (zPu ((lk f 8).1) J M R) := by
  intro j
  induction j with
  | zero =>
    intro k hk
    obtain rfl : k = 8 := by omega
    refine z_iload rfl rfl ?_
    refine z_pushI (z := 8) rfl rfl ?_
    refine z_icmp_geT rfl (by omega) (by omega) (by omega) ?_
    refine z_iload rfl rfl ?_
    exact z_iret rfl rfl ⟨rfl, rfl, rfl, rfl⟩
  | succ j ih =>
    intro k hk
    have qb := lk_b hfr k
    refine z_iload3 rfl ?_
    refine z_pushJ gp_81_8 ?_
    refine z_icmp_geF rfl (by omega) zr_8 (by omega) ?_
    refine z_aload0 rfl ?_
    refine z_getR (r := 11) rfl gk_10 (hR _ rm_10_1) ?_
    refine z_iload3 rfl ?_
    have q1 := hfr (k : Int)
    refine z_iald (v := f (k : Int)) rfl gk_11 (by decide) (by omega) (hf _ (by omega) (by omega)) ?_
    refine z_iload2 rfl ?_
    refine z_icmp_le rfl (by omega) (by omega) (fun h2 => ?_) (fun h2 => ?_)
    · refine z_iinc (c := 1) (e := (k : Int) + 1) (ls1 := [some (.ref 10), some (zi ((lk f k).1)), some (zi ((lk f k).2)), some (zi ((k : Int) + 1))]) gi_81_32 rfl rfl rfl rfl ?_
      refine z_goto gi_81_35 ?_
      show zW _ _ _ _ [some (.ref 10), some (zi ((lk f k).1)), some (zi ((lk f k).2)), some (zi ((k : Int) + 1))] [] _ _ _ _
      have hg := ih (k + 1) (by omega)
      rw [lk_0 (by omega)] at hg
      exact hg
    · refine z_aload0 rfl ?_
      refine z_getR (r := 11) rfl gk_10 (hR _ rm_10_1) ?_
      refine z_iload3 rfl ?_
      have q3 := hfr (k : Int)
      refine z_iald (v := f (k : Int)) rfl gk_11 (by decide) (by omega) (hf _ (by omega) (by omega)) ?_
      refine z_istore (ls1 := [some (.ref 10), some (zi ((lk f k).1)), some (zi (f (k : Int))), some (zi (k : Int))]) rfl rfl ?_
      refine z_iload3 rfl ?_
      refine z_istore (ls1 := [some (.ref 10), some (zi (k : Int)), some (zi (f (k : Int))), some (zi (k : Int))]) rfl rfl ?_
      refine z_iinc (c := 1) (e := (k : Int) + 1) (ls1 := [some (.ref 10), some (zi (k : Int)), some (zi (f (k : Int))), some (zi ((k : Int) + 1))]) gi_81_32 rfl rfl rfl rfl ?_
      refine z_goto gi_81_35 ?_
      show zW _ _ _ _ [some (.ref 10), some (zi (k : Int)), some (zi (f (k : Int))), some (zi ((k : Int) + 1))] [] _ _ _ _
      have hg := ih (k + 1) (by omega)
      rw [lk_1 (by omega)] at hg
      exact hg
theorem likR_z {X : Nat × (Nat → Int32)} {d : Nat} {J M : zA} {R : zR} (hR : zRoR R) {f : Int → Int} {n : Int} (hn : 0 ≤ n ∧ n ≤ 8) (hz : J 50 1 = n) (hf : ∀ p, 0 ≤ p → p < n → J 69 p = f p) (hfr : ∀ p, 0 ≤ f p ∧ f p ≤ 1000000) : ∀ (j k : Nat), (k : Int) + j = n → zW X (d + 3) 198 7 [some (.ref 50), some (zi ((lk f k).1)), some (zi ((lk f k).2)), some (zi (k : Int))] [] J M R (zPu ((lk f n.toNat).1) J M R) := by
  intro j
  induction j with
  | zero =>
    intro k hk
    obtain rfl : k = n.toNat := by omega
    refine z_iload rfl rfl ?_
    refine z_aload rfl rfl ?_
    refine z_getI (v := n) rfl rfl (hz) ?_
    refine z_icmp_geT rfl (by omega) (by omega) (by omega) ?_
    refine z_iload rfl rfl ?_
    exact z_iret rfl rfl ⟨rfl, rfl, rfl, rfl⟩
  | succ j ih =>
    intro k hk
    have qb := lk_b hfr k
    refine z_iload3 rfl ?_
    refine z_aload0 rfl ?_
    refine z_getI (v := n) rfl gk_50 (hz) ?_
    refine z_icmp_geF rfl (by omega) (by omega) (by omega) ?_
    refine z_aload0 rfl ?_
    refine z_getR (r := 69) rfl gk_50 (hR _ rm_50_28 (by decide)) ?_
    refine z_iload3 rfl ?_
    have q1 := hfr (k : Int)
    refine z_iald (v := f (k : Int)) rfl gk_69 (by decide) (by omega) (hf _ (by omega) (by omega)) ?_
    refine z_iload2 rfl ?_
    refine z_icmp_gt rfl (by omega) (by omega) (fun h2 => ?_) (fun h2 => ?_)
    · refine z_iload3 rfl ?_
      refine z_istore (ls1 := [some (.ref 50), some (zi (k : Int)), some (zi ((lk f k).2)), some (zi (k : Int))]) rfl rfl ?_
      refine z_aload0 rfl ?_
      refine z_getR (r := 69) rfl gk_50 (hR _ rm_50_28 (by decide)) ?_
      refine z_iload3 rfl ?_
      have q3 := hfr (k : Int)
      refine z_iald (v := f (k : Int)) rfl gk_69 (by decide) (by omega) (hf _ (by omega) (by omega)) ?_
      refine z_istore (ls1 := [some (.ref 50), some (zi (k : Int)), some (zi (f (k : Int))), some (zi (k : Int))]) rfl rfl ?_
      refine z_iinc (c := 1) (e := (k : Int) + 1) (ls1 := [some (.ref 50), some (zi (k : Int)), some (zi (f (k : Int))), some (zi ((k : Int) + 1))]) gi_198_37 rfl rfl rfl rfl ?_
      refine z_goto gi_198_40 ?_
      show zW _ _ _ _ [some (.ref 50), some (zi (k : Int)), some (zi (f (k : Int))), some (zi ((k : Int) + 1))] [] _ _ _ _
      have hg := ih (k + 1) (by omega)
      rw [lk_1 (by omega)] at hg
      exact hg
    · refine z_goto rfl ?_
      refine z_iinc (c := 1) (e := (k : Int) + 1) (ls1 := [some (.ref 50), some (zi ((lk f k).1)), some (zi ((lk f k).2)), some (zi ((k : Int) + 1))]) gi_198_37 rfl rfl rfl rfl ?_
      refine z_goto gi_198_40 ?_
      show zW _ _ _ _ [some (.ref 50), some (zi ((lk f k).1)), some (zi ((lk f k).2)), some (zi ((k : Int) + 1))] [] _ _ _ _
      have hg := ih (k + 1) (by omega)
      rw [lk_0 (by omega)] at hg
      exact hg
theorem lftC_z {X : Nat × (Nat → Int32)} {d : Nat} {J M : zA} {R : zR} (hR : zRok R) {g : Int} (hg0 : 0 ≤ g ∧ g ≤ 1000000) {f : Int → Int} (hf : ∀ p, 0 ≤ p → p < 8 → J 11 p = f p) (hfr : ∀ p, 0 ≤ f p ∧ f p ≤ 1000000) : ∀ (j k : Nat), (k : Int) + j = 8 → zW X (d + 3) 82 10 [some (.ref 10), some (zi (g + sm f k)), some (zi (k : Int))] [] J M R (zPu (g + sm f 8) J M R) := by
  intro j
  induction j with
  | zero =>
    intro k hk
    obtain rfl : k = 8 := by omega
    refine z_iload rfl rfl ?_
    refine z_pushI (z := 8) rfl rfl ?_
    refine z_icmp_geT rfl (by omega) (by omega) (by omega) ?_
    refine z_iload rfl rfl ?_
    exact z_iret rfl rfl ⟨rfl, rfl, rfl, rfl⟩
  | succ j ih =>
    intro k hk
    have qb := sm_r hfr k
    refine z_iload2 rfl ?_
    refine z_pushJ gp_82_11 ?_
    refine z_icmp_geF rfl (by omega) zr_8 (by omega) ?_
    refine z_iload1 rfl ?_
    refine z_aload0 rfl ?_
    refine z_getR (r := 11) rfl gk_10 (hR _ rm_10_1) ?_
    refine z_iload2 rfl ?_
    have q1 := hfr (k : Int)
    refine z_iald (v := f (k : Int)) rfl gk_11 (by decide) (by omega) (hf _ (by omega) (by omega)) ?_
    refine z_iadd (e := (g + sm f k) + (f (k : Int))) rfl rfl ?_
    refine z_istore (ls1 := [some (.ref 10), some (zi ((g + sm f k) + (f (k : Int)))), some (zi (k : Int))]) rfl rfl ?_
    refine z_iinc (c := 1) (e := (k : Int) + 1) (ls1 := [some (.ref 10), some (zi ((g + sm f k) + (f (k : Int)))), some (zi ((k : Int) + 1))]) rfl rfl rfl rfl rfl ?_
    refine z_goto rfl ?_
    show zW _ _ _ _ [some (.ref 10), some (zi ((g + sm f k) + (f (k : Int)))), some (zi ((k : Int) + 1))] [] _ _ _ _
    have hg := ih (k + 1) (by omega)
    rw [show sm f (k + 1) = sm f k + f k from rfl, ← Int.add_assoc] at hg
    exact hg
theorem lftR_z {X : Nat × (Nat → Int32)} {d : Nat} {J M : zA} {R : zR} (hR : zRoR R) {g : Int} (hg0 : 0 ≤ g ∧ g ≤ 1000000) {f : Int → Int} {n : Int} (hn : 0 ≤ n ∧ n ≤ 8) (hz : J 50 1 = n) (hf : ∀ p, 0 ≤ p → p < n → J 69 p = f p) (hfr : ∀ p, 0 ≤ f p ∧ f p ≤ 1000000) : ∀ (j k : Nat), (k : Int) + j = n → zW X (d + 3) 197 7 [some (.ref 50), some (zi (g + sm f k)), some (zi (k : Int))] [] J M R (zPu (g + sm f n.toNat) J M R) := by
  intro j
  induction j with
  | zero =>
    intro k hk
    obtain rfl : k = n.toNat := by omega
    refine z_iload rfl rfl ?_
    refine z_aload rfl rfl ?_
    refine z_getI (v := n) rfl rfl (hz) ?_
    refine z_icmp_geT rfl (by omega) (by omega) (by omega) ?_
    refine z_iload rfl rfl ?_
    exact z_iret rfl rfl ⟨rfl, rfl, rfl, rfl⟩
  | succ j ih =>
    intro k hk
    have qb := sm_r hfr k
    refine z_iload2 rfl ?_
    refine z_aload0 rfl ?_
    refine z_getI (v := n) rfl gk_50 (hz) ?_
    refine z_icmp_geF rfl (by omega) (by omega) (by omega) ?_
    refine z_iload1 rfl ?_
    refine z_aload0 rfl ?_
    refine z_getR (r := 69) rfl gk_50 (hR _ rm_50_28 (by decide)) ?_
    refine z_iload2 rfl ?_
    have q1 := hfr (k : Int)
    refine z_iald (v := f (k : Int)) rfl gk_69 (by decide) (by omega) (hf _ (by omega) (by omega)) ?_
    refine z_iadd (e := (g + sm f k) + (f (k : Int))) rfl rfl ?_
    refine z_istore (ls1 := [some (.ref 50), some (zi ((g + sm f k) + (f (k : Int)))), some (zi (k : Int))]) rfl rfl ?_
    refine z_iinc (c := 1) (e := (k : Int) + 1) (ls1 := [some (.ref 50), some (zi ((g + sm f k) + (f (k : Int)))), some (zi ((k : Int) + 1))]) rfl rfl rfl rfl rfl ?_
    refine z_goto rfl ?_
    show zW _ _ _ _ [some (.ref 50), some (zi ((g + sm f k) + (f (k : Int)))), some (zi ((k : Int) + 1))] [] _ _ _ _
    have hg := ih (k + 1) (by omega)
    rw [show sm f (k + 1) = sm f k + f k from rfl, ← Int.add_assoc] at hg
    exact hg
theorem likC_k {X : Nat × (Nat → Int32)} {d : Nat} {J M : zA} {R : zR} (hR : zRok R) {f : Int → Int} (hf : ∀ p, 0 ≤ p → p < 8 → J 11 p = f p) (hfr : ∀ p, 0 ≤ f p ∧ f p ≤ 1000000) : zW X (d + 3) 81 0 (gEn 81 [(.ref 10)]) [] J M R (zPu (lk f 8).1 J M R) := by
  show zW _ _ _ _ [some (.ref 10), none, none, none] _ _ _ _ _
  refine z_pushJ gp_81_0 ?_
  refine z_istore (ls1 := [some (.ref 10), some (zi (-2)), none, none]) rfl rfl ?_
  refine z_pushJ gp_81_3 ?_
  refine z_istore (ls1 := [some (.ref 10), some (zi (-2)), some (zi 0), none]) rfl rfl ?_
  refine z_pushJ gp_81_5 ?_
  refine z_istore (ls1 := [some (.ref 10), some (zi (-2)), some (zi 0), some (zi 0)]) rfl rfl ?_
  show zW _ _ _ _ [some (.ref 10), some (zi (-2)), some (zi 0), some (zi 0)] [] _ _ _ _
  exact likC_z hR hf hfr 8 0 (by decide)
theorem likR_k {X : Nat × (Nat → Int32)} {d : Nat} {J M : zA} {R : zR} (hR : zRoR R) {f : Int → Int} {n : Int} (hn : 0 ≤ n ∧ n ≤ 8) (hz : J 50 1 = n) (hf : ∀ p, 0 ≤ p → p < n → J 69 p = f p) (hfr : ∀ p, 0 ≤ f p ∧ f p ≤ 1000000) : zW X (d + 3) 198 0 (gEn 198 [(.ref 50)]) [] J M R (zPu (lk f n.toNat).1 J M R) := by
  show zW _ _ _ _ [some (.ref 50), none, none, none] _ _ _ _ _
  refine z_pushJ gp_198_0 ?_
  refine z_istore (ls1 := [some (.ref 50), some (zi (-2)), none, none]) rfl rfl ?_
  refine z_pushJ gp_198_3 ?_
  refine z_istore (ls1 := [some (.ref 50), some (zi (-2)), some (zi 0), none]) rfl rfl ?_
  refine z_pushJ gp_198_5 ?_
  refine z_istore (ls1 := [some (.ref 50), some (zi (-2)), some (zi 0), some (zi 0)]) rfl rfl ?_
  show zW _ _ _ _ [some (.ref 50), some (zi (-2)), some (zi 0), some (zi 0)] [] _ _ _ _
  exact likR_z hR hn hz hf hfr n.toNat 0 (by omega)
theorem lftC_k {X : Nat × (Nat → Int32)} {d : Nat} {J M : zA} {R : zR} (hR : zRok R) {A : zA} {N : Int → Int → Int} {n : Int} (hJ : zK kT A J) (hA : cN A = N) (hz : A 8 2 = n) (hN : zNr n N) {f : Int → Int} (hf : ∀ p, 0 ≤ p → p < 8 → J 11 p = f p) (hfr : ∀ p, 0 ≤ f p ∧ f p ≤ 1000000) : zW X (d + 6) 82 0 (gEn 82 [(.ref 10)]) [] J M R (zPu (sGone N n + sm f 8) J M R) := by
  show zW _ _ _ _ [some (.ref 10), none, none] _ _ _ _ _
  refine z_aload0 rfl ?_
  refine z_getR (r := 8) rfl gk_10 (hR _ rm_10_0) ?_
  refine z_callVP (As := []) (v := sGone N n) rfl rfl gk_8 (Nat.le_of_ble_eq_true rfl) (Nat.le_of_ble_eq_true rfl) (shareGone_k hR hJ hA hz hN) ?_
  have qg := sGone_r hN
  refine z_istore (ls1 := [some (.ref 10), some (zi (sGone N n)), none]) rfl rfl ?_
  refine z_pushJ gp_82_8 ?_
  refine z_istore (ls1 := [some (.ref 10), some (zi (sGone N n)), some (zi 0)]) rfl rfl ?_
  show zW _ _ _ _ [some (.ref 10), some (zi (sGone N n)), some (zi 0)] [] _ _ _ _
  have h := lftC_z (d := d + 3) (g := sGone N n) hR (by omega) hf hfr 8 0 (by decide) (X := X) (M := M)
  rw [show sGone N n + sm f 0 = sGone N n from Int.add_zero _] at h
  exact h
theorem lftR_k {X : Nat × (Nat → Int32)} {d : Nat} {J M : zA} {R : zR} (hR : zRoR R) {g : Int} (hg0 : 0 ≤ g ∧ g ≤ 1000000) (h33 : J 50 33 = g) {f : Int → Int} {n : Int} (hn : 0 ≤ n ∧ n ≤ 8) (hz : J 50 1 = n) (hf : ∀ p, 0 ≤ p → p < n → J 69 p = f p) (hfr : ∀ p, 0 ≤ f p ∧ f p ≤ 1000000) : zW X (d + 3) 197 0 (gEn 197 [(.ref 50)]) [] J M R (zPu (g + sm f n.toNat) J M R) := by
  show zW _ _ _ _ [some (.ref 50), none, none] _ _ _ _ _
  refine z_aload0 rfl ?_
  refine z_getI (v := g) rfl gk_50 (h33) ?_
  refine z_istore (ls1 := [some (.ref 50), some (zi g), none]) rfl rfl ?_
  refine z_pushJ gp_197_5 ?_
  refine z_istore (ls1 := [some (.ref 50), some (zi g), some (zi 0)]) rfl rfl ?_
  show zW _ _ _ _ [some (.ref 50), some (zi g), some (zi 0)] [] _ _ _ _
  have h := lftR_z (d := d) (g := g) hR hg0 hn hz hf hfr n.toNat 0 (by omega) (X := X) (M := M)
  rw [show g + sm f 0 = g from Int.add_zero _] at h
  exact h
