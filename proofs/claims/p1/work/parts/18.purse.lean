theorem gU_gU {α : Type} {f : Nat → Nat → α} {a k : Nat} {v w : α} : gU (gU f a k v) a k w = gU f a k w := by
  funext x j
  unfold gU
  by_cases h1 : x = a
  · by_cases h2 : j = k
    · simp [h1, h2]
    · simp [h1, h2]
  · simp [h1]
/-- what going on costs, and having two, after so many years -/
def pz (u s q l : Int) : Nat → Int × Int
  | 0 => (0, 0)
  | k + 1 =>
    let c := (pz u s q l k).1
    let w := (l * c + (12 - l) * (pz u s q l k).2).tdiv 12
    (if 1000 * s + w < 1000 * u + c then (if 1000 * q + w < 1000 * s + w then 1000 * q + w else 1000 * s + w) else (if 1000 * q + w < 1000 * u + c then 1000 * q + w else 1000 * u + c), w)
/-- what to do, so many years being left -/
def pd (u s q l : Int) : Nat → Int32
  | 0 => 0
  | k + 1 =>
    let c := (pz u s q l k).1
    let w := (pz u s q l (k + 1)).2
    if 1000 * u + c ≤ 1000 * s + w ∧ 1000 * u + c ≤ 1000 * q + w then 0 else if s ≤ q then 1 else 2
theorem pz_1 {u s q l : Int} {k : Nat} : (pz u s q l (k + 1)).1 = if 1000 * s + (pz u s q l (k + 1)).2 < 1000 * u + (pz u s q l k).1 then (if 1000 * q + (pz u s q l (k + 1)).2 < 1000 * s + (pz u s q l (k + 1)).2 then 1000 * q + (pz u s q l (k + 1)).2 else 1000 * s + (pz u s q l (k + 1)).2) else (if 1000 * q + (pz u s q l (k + 1)).2 < 1000 * u + (pz u s q l k).1 then 1000 * q + (pz u s q l (k + 1)).2 else 1000 * u + (pz u s q l k).1) := rfl
theorem pz_2 {u s q l : Int} {k : Nat} : (pz u s q l (k + 1)).2 = (l * (pz u s q l k).1 + (12 - l) * (pz u s q l k).2).tdiv 12 := rfl
theorem pz_le {u s q l : Int} (hu : 0 ≤ u ∧ u ≤ 9999) (hs : 0 ≤ s ∧ s ≤ 9999) (hq : 0 ≤ q ∧ q ≤ 9999) (hl : 0 ≤ l ∧ l ≤ 12) : ∀ k : Nat, 0 ≤ (pz u s q l k).1 ∧ (pz u s q l k).1 ≤ 10000000 * k ∧ 0 ≤ (pz u s q l k).2 ∧ (pz u s q l k).2 ≤ 10000000 * k := by
  intro k
  induction k with
  | zero => simp [pz]
  | succ k ih =>
    obtain ⟨h1, h2, h3, h4⟩ := ih
    have e1 : 0 ≤ l * (pz u s q l k).1 := Int.mul_nonneg hl.1 h1
    have e2 : 0 ≤ (12 - l) * (pz u s q l k).2 := Int.mul_nonneg (by omega) h3
    have e3 : l * (pz u s q l k).1 ≤ l * (10000000 * k) := Int.mul_le_mul_of_nonneg_left h2 hl.1
    have e4 : (12 - l) * (pz u s q l k).2 ≤ (12 - l) * (10000000 * k) := Int.mul_le_mul_of_nonneg_left h4 (by omega)
    have e5 : l * (10000000 * (k : Int)) + (12 - l) * (10000000 * (k : Int)) = 12 * (10000000 * (k : Int)) := by rw [← Int.add_mul]; congr 1; omega
    have w1 : 0 ≤ (l * (pz u s q l k).1 + (12 - l) * (pz u s q l k).2).tdiv 12 := Int.tdiv_nonneg (by omega) (by omega)
    have w2 : (l * (pz u s q l k).1 + (12 - l) * (pz u s q l k).2).tdiv 12 ≤ 10000000 * k := by
      rw [Int.tdiv_eq_ediv_of_nonneg (by omega)]
      omega
    rw [← pz_2] at w1 w2
    generalize hW : (pz u s q l (k + 1)).2 = W at w1 w2 ⊢
    have e6 : (pz u s q l (k + 1)).1 = _ := pz_1
    rw [hW] at e6
    rw [e6]
    refine ⟨?_, ?_, w1, by omega⟩
    · split <;> split <;> omega
    · split <;> split <;> omega
set_option maxHeartbeats 4000000 in
theorem choose1 {X : Nat × (Nat → Int32)} {d : Nat} {I : Nat → Nat → Int32} {L : Nat → Nat → Int64} {R : Nat → Nat → Option Nat} {Q : gQ} {g a b : Int64}
    (hq : ∀ (z : Int64) (ch : Int32), z = (if a < g then (if b < a then b else a) else (if b < g then b else g)) → ch = (if a < g then (if b < a then 2 else 1) else (if b < g then 2 else 0)) → Q none (gK 87, gU I 22 2 ch, gU L 22 1 z, R)) :
    gW X d 57 0 0 0 (gEn 57 [.ref 22, .long g, .long a, .long b]) [] (gK 87, I, L, R) Q := by
  show gW _ _ _ _ _ _ [some (.ref 22), some (.long g), none, some (.long a), none, some (.long b), none] _ _ _
  refine w_aload rfl rfl ?_
  refine w_lload rfl rfl ?_
  refine w_putL rfl rfl ?_
  refine w_aload rfl rfl ?_
  refine w_pushI rfl ?_
  refine w_putI rfl rfl ?_
  refine w_lload rfl rfl ?_
  refine w_aload rfl rfl ?_
  refine w_getLv (x := g) rfl rfl gU_e ?_
  refine w_lcmp rfl ?_
  have tail : ∀ (c1 : Int64) (ch1 : Int32), c1 = (if a < g then a else g) → ch1 = (if a < g then 1 else 0) → gW X d 57 29 0 0 [some (.ref 22), some (.long g), none, some (.long a), none, some (.long b), none] [] (gK 87, gU I 22 2 ch1, gU L 22 1 c1, R) Q := by
    intro c1 ch1 e1 e2
    refine w_lload rfl rfl ?_
    refine w_aload rfl rfl ?_
    refine w_getLv (x := c1) rfl rfl gU_e ?_
    refine w_lcmp rfl ?_
    refine w_if_ge rfl (fun h => ?_) (fun h => ?_)
    · rw [lg_cmp_ge] at h
      refine w_vret rfl rfl (hq c1 ch1 ?_ ?_)
      · rw [e1] at h ⊢
        by_cases hc : a < g
        · rw [if_pos hc] at h ⊢
          rw [if_pos hc, if_neg (Int64.not_lt.mpr h)]
        · rw [if_neg hc] at h ⊢
          rw [if_neg hc, if_neg (Int64.not_lt.mpr h)]
      · rw [e1] at h
        rw [e2]
        by_cases hc : a < g
        · rw [if_pos hc] at h ⊢
          rw [if_pos hc, if_neg (Int64.not_lt.mpr h)]
        · rw [if_neg hc] at h ⊢
          rw [if_neg hc, if_neg (Int64.not_lt.mpr h)]
    · rw [lg_cmp_ge] at h
      have h : b < c1 := Int64.not_le.mp h
      refine w_aload rfl rfl ?_
      refine w_lload rfl rfl ?_
      refine w_putL rfl rfl ?_
      refine w_aload rfl rfl ?_
      refine w_pushI rfl ?_
      refine w_putI rfl rfl ?_
      rw [gU_gU, gU_gU]
      refine w_vret rfl rfl (hq b 2 ?_ ?_)
      · rw [e1] at h
        by_cases hc : a < g
        · rw [if_pos hc] at h ⊢
          rw [if_pos h]
        · rw [if_neg hc] at h ⊢
          rw [if_pos h]
      · rw [e1] at h
        by_cases hc : a < g
        · rw [if_pos hc] at h ⊢
          rw [if_pos h]
        · rw [if_neg hc] at h ⊢
          rw [if_pos h]
  refine w_if_ge rfl (fun h => ?_) (fun h => ?_)
  · rw [lg_cmp_ge] at h
    exact tail g 0 (by rw [if_neg (Int64.not_lt.mpr h)]) (by rw [if_neg (Int64.not_lt.mpr h)])
  · rw [lg_cmp_ge] at h
    have h : a < g := Int64.not_le.mp h
    refine w_aload rfl rfl ?_
    refine w_lload rfl rfl ?_
    refine w_putL rfl rfl ?_
    refine w_aload rfl rfl ?_
    refine w_pushI rfl ?_
    refine w_putI rfl rfl ?_
    rw [gU_gU, gU_gU]
    exact tail a 1 (by rw [if_pos h]) (by rw [if_pos h])
theorem i64_lt {a b : Int64} : a < b ↔ a.toInt < b.toInt := Int64.lt_iff_toInt_lt
theorem pd_succ {u s q l : Int} {k : Nat} {ch : Int32} {g a b : Int64} (eg : g.toInt = 1000 * u + (pz u s q l k).1) (ea : a.toInt = 1000 * s + (pz u s q l (k + 1)).2) (eb : b.toInt = 1000 * q + (pz u s q l (k + 1)).2)
    (h : ch = (if a < g then (if b < a then 2 else 1) else (if b < g then 2 else 0))) : ch = pd u s q l (k + 1) := by
  rw [h]
  show _ = if 1000 * u + (pz u s q l k).1 ≤ 1000 * s + (pz u s q l (k + 1)).2 ∧ 1000 * u + (pz u s q l k).1 ≤ 1000 * q + (pz u s q l (k + 1)).2 then 0 else if s ≤ q then 1 else 2
  rw [← eg, ← ea, ← eb]
  simp only [i64_lt]
  by_cases h1 : a.toInt < g.toInt
  · have r : ¬ (g.toInt ≤ a.toInt ∧ g.toInt ≤ b.toInt) := by omega
    rw [if_pos h1, if_neg r]
    by_cases h2 : b.toInt < a.toInt
    · rw [if_pos h2, if_neg (by omega : ¬ s ≤ q)]
    · rw [if_neg h2, if_pos (by omega : s ≤ q)]
  · rw [if_neg h1]
    by_cases h2 : b.toInt < g.toInt
    · have r : ¬ (g.toInt ≤ a.toInt ∧ g.toInt ≤ b.toInt) := by omega
      rw [if_pos h2, if_neg r, if_neg (by omega : ¬ s ≤ q)]
    · have r : g.toInt ≤ a.toInt ∧ g.toInt ≤ b.toInt := by omega
      rw [if_neg h2, if_pos r]
theorem pz_succ1 {u s q l : Int} {k : Nat} {z g a b : Int64} (eg : g.toInt = 1000 * u + (pz u s q l k).1) (ea : a.toInt = 1000 * s + (pz u s q l (k + 1)).2) (eb : b.toInt = 1000 * q + (pz u s q l (k + 1)).2)
    (h : z = (if a < g then (if b < a then b else a) else (if b < g then b else g))) : z.toInt = (pz u s q l (k + 1)).1 := by
  rw [h]
  show _ = if 1000 * s + (pz u s q l (k + 1)).2 < 1000 * u + (pz u s q l k).1 then (if 1000 * q + (pz u s q l (k + 1)).2 < 1000 * s + (pz u s q l (k + 1)).2 then 1000 * q + (pz u s q l (k + 1)).2 else 1000 * s + (pz u s q l (k + 1)).2) else (if 1000 * q + (pz u s q l (k + 1)).2 < 1000 * u + (pz u s q l k).1 then 1000 * q + (pz u s q l (k + 1)).2 else 1000 * u + (pz u s q l k).1)
  rw [← eg, ← ea, ← eb]
  simp only [i64_lt]
  by_cases h1 : a.toInt < g.toInt
  · rw [if_pos h1, if_pos h1]
    by_cases h2 : b.toInt < a.toInt
    · rw [if_pos h2, if_pos h2]
    · rw [if_neg h2, if_neg h2]
  · rw [if_neg h1, if_neg h1]
    by_cases h2 : b.toInt < g.toInt
    · rw [if_pos h2, if_pos h2]
    · rw [if_neg h2, if_neg h2]
/-- one year's mean, in longs -/
theorem mean_toInt {u s q l : Int} {k : Nat} (hu : 0 ≤ u ∧ u ≤ 9999) (hs : 0 ≤ s ∧ s ≤ 9999) (hq : 0 ≤ q ∧ q ≤ 9999) (hl : 0 ≤ l ∧ l ≤ 12) (hk : k ≤ 20) {lo z w : Int64} (e1 : lo.toInt = l) (e2 : z.toInt = (pz u s q l k).1) (e3 : w.toInt = (pz u s q l k).2) :
    ((lo * z + (12 - lo) * w) / 12).toInt = (pz u s q l (k + 1)).2 := by
  obtain ⟨h1, h2, h3, h4⟩ := pz_le hu hs hq hl k
  have c12 : (12 : Int64).toInt = 12 := rfl
  have a1 : (12 - lo).toInt = 12 - l := by rw [Kit.i64_sub (by omega) (by omega), c12, e1]
  have m1 : 0 ≤ l * (pz u s q l k).1 := Int.mul_nonneg hl.1 h1
  have m2 : 0 ≤ (12 - l) * (pz u s q l k).2 := Int.mul_nonneg (by omega) h3
  have m3 : l * (pz u s q l k).1 ≤ 12 * 200000000 := Int.mul_le_mul hl.2 (by omega) h1 (by omega)
  have m4 : (12 - l) * (pz u s q l k).2 ≤ 12 * 200000000 := Int.mul_le_mul (by omega) (by omega) h3 (by omega)
  have a2 : (lo * z).toInt = l * (pz u s q l k).1 := by rw [Kit.i64_mul (by rw [e1, e2]; omega) (by rw [e1, e2]; omega), e1, e2]
  have a3 : ((12 - lo) * w).toInt = (12 - l) * (pz u s q l k).2 := by rw [Kit.i64_mul (by rw [a1, e3]; omega) (by rw [a1, e3]; omega), a1, e3]
  have a4 : (lo * z + (12 - lo) * w).toInt = l * (pz u s q l k).1 + (12 - l) * (pz u s q l k).2 := by rw [Kit.i64_add (by rw [a2, a3]; omega) (by rw [a2, a3]; omega), a2, a3]
  rw [Kit.i64_div (by rw [c12]; omega), a4, c12]
  rfl
set_option maxHeartbeats 4000000 in
/-- the class's plan: its loop -/
theorem plan_loop {X : Nat × (Nat → Int32)} {d : Nat} {I : Nat → Nat → Int32} {L : Nat → Nat → Int64} {R : Nat → Nat → Option Nat} {Q : gQ} {u s q l : Int} {n : Nat} {years un : Int32} {S P Lo : Int64} {t0 : Option Value} (hu : 0 ≤ u ∧ u ≤ 9999) (hs : 0 ≤ s ∧ s ≤ 9999) (hq : 0 ≤ q ∧ q ≤ 9999) (hl : 0 ≤ l ∧ l ≤ 12) (hn : n ≤ 20) (ey : years.toInt = n) (eu : un.toInt = u) (eS : S.toInt = 1000 * s) (eP : P.toInt = 1000 * q) (eL : Lo.toInt = l)
    (hQ : ∀ z : Int64, z.toInt = (pz u s q l n).1 → Q none (gK 87, gU I 22 2 (pd u s q l n), gU L 22 1 z, R)) :
    ∀ (j k : Nat), k + j = n → ∀ (z w : Int64), z.toInt = (pz u s q l k).1 → w.toInt = (pz u s q l k).2 →
    gW X (d + 1) 56 62 0 0 [some (.ref 22), some (.int years), some (.int un), some (.long S), none, some (.long P), none, some (.long Lo), none, some (.long w), none, some (.int (nI k))] [] (gK 87, gU I 22 2 (pd u s q l k), gU L 22 1 z, R) Q := by
  intro j
  induction j with
  | zero =>
    intro k hk z w e1 e2
    have hk : k = n := by omega
    subst hk
    refine w_iload rfl rfl ?_
    refine w_iload rfl rfl ?_
    refine w_icmp_geZ rfl (nI_toInt (by omega)) ey (fun h => ?_) (fun h => ?_)
    · exact w_vret rfl rfl (hQ z e1)
    · exfalso; omega
  | succ j ih =>
    intro k hk z w e1 e2
    obtain ⟨h1, h2, h3, h4⟩ := pz_le hu hs hq hl k
    obtain ⟨h5, h6, h7, h8⟩ := pz_le hu hs hq hl (k + 1)
    refine w_iload rfl rfl ?_
    refine w_iload rfl rfl ?_
    refine w_icmp_geZ rfl (nI_toInt (by omega)) ey (fun h => ?_) (fun h => ?_)
    · exfalso; omega
    have c1000 : (1000 : Int64).toInt = 1000 := rfl
    have hw := mean_toInt hu hs hq hl (by omega : k ≤ 20) eL e1 e2
    generalize hw2 : (Lo * z + (12 - Lo) * w) / 12 = w2 at hw
    have f1 : (1000 * un.toInt64).toInt = 1000 * u := by
      have := Kit.i64_of_i32 un
      rw [Kit.i64_mul (by rw [c1000, this]; omega) (by rw [c1000, this]; omega), c1000, this, eu]
    have f2 : (1000 * un.toInt64 + z).toInt = 1000 * u + (pz u s q l k).1 := by rw [Kit.i64_add (by rw [f1, e1]; omega) (by rw [f1, e1]; omega), f1, e1]
    have f3 : (S + w2).toInt = 1000 * s + (pz u s q l (k + 1)).2 := by rw [Kit.i64_add (by rw [eS, hw]; omega) (by rw [eS, hw]; omega), eS, hw]
    have f4 : (P + w2).toInt = 1000 * q + (pz u s q l (k + 1)).2 := by rw [Kit.i64_add (by rw [eP, hw]; omega) (by rw [eP, hw]; omega), eP, hw]
    refine w_lload rfl rfl ?_
    refine w_aload rfl rfl ?_
    refine w_getLv (x := z) rfl rfl gU_e ?_
    refine w_lmul rfl ?_
    refine w_pushL rfl ?_
    refine w_lload rfl rfl ?_
    refine w_lsub rfl ?_
    refine w_lload rfl rfl ?_
    refine w_lmul rfl ?_
    refine w_ladd rfl ?_
    refine w_pushL rfl ?_
    refine w_ldivv (z := w2) rfl (by decide) hw2 ?_
    refine w_lstore rfl rfl ?_
    refine w_aload rfl rfl ?_
    refine w_pushL rfl ?_
    refine w_iload rfl rfl ?_
    refine w_i2l rfl ?_
    refine w_lmul rfl ?_
    refine w_aload rfl rfl ?_
    refine w_getLv (x := z) rfl rfl gU_e ?_
    refine w_ladd rfl ?_
    refine w_lload rfl rfl ?_
    refine w_lload rfl rfl ?_
    refine w_ladd rfl ?_
    refine w_lload rfl rfl ?_
    refine w_lload rfl rfl ?_
    refine w_ladd rfl ?_
    refine w_callVi (As := [_, _, _]) (le := [some _, some _, none, some _, none, some _, none]) rfl rfl rfl (Nat.le_of_ble_eq_true rfl) (Nat.le_of_ble_eq_true rfl) rfl ?_
    refine choose1 (fun z2 ch hz hch => ?_)
    show gW _ _ _ _ _ _ _ _ _ _
    rw [gU_gU, gU_gU, pd_succ f2 f3 f4 hch]
    refine w_iincv (z := nI (k + 1)) rfl rfl (nI_1 k) rfl ?_
    refine w_goto rfl ?_
    exact ih (k + 1) (by omega) z2 w2 (pz_succ1 f2 f3 f4 hz) hw
