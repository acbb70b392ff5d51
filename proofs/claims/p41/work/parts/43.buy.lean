noncomputable def b3 (g a b : Int) : Int := if a < g then (if b < a then b else a) else (if b < g then b else g)
noncomputable def c3 (g a b : Int) : Int := if a < g then (if b < a then 2 else 1) else (if b < g then 2 else 0)
/-- what it costs with one, with two, so many years being left -/
noncomputable def bz (u s q l : Int) : Nat → Int × Int
  | 0 => (0, 0)
  | k + 1 => (b3 (1000 * u + (bz u s q l k).1) (1000 * s + (l * (bz u s q l k).1 + (12 - l) * (bz u s q l k).2) / 12) (1000 * q + (l * (bz u s q l k).1 + (12 - l) * (bz u s q l k).2) / 12), (l * (bz u s q l k).1 + (12 - l) * (bz u s q l k).2) / 12)
noncomputable def bch (u s q l : Int) : Nat → Int
  | 0 => 0
  | k + 1 => c3 (1000 * u + (bz u s q l k).1) (1000 * s + (l * (bz u s q l k).1 + (12 - l) * (bz u s q l k).2) / 12) (1000 * q + (l * (bz u s q l k).1 + (12 - l) * (bz u s q l k).2) / 12)
theorem bz_1 {u s q l : Int} {k : Nat} : (bz u s q l (k + 1)).1 = b3 (1000 * u + (bz u s q l k).1) (1000 * s + (l * (bz u s q l k).1 + (12 - l) * (bz u s q l k).2) / 12) (1000 * q + (l * (bz u s q l k).1 + (12 - l) * (bz u s q l k).2) / 12) := rfl
theorem bz_2 {u s q l : Int} {k : Nat} : (bz u s q l (k + 1)).2 = (l * (bz u s q l k).1 + (12 - l) * (bz u s q l k).2) / 12 := rfl
theorem bch_1 {u s q l : Int} {k : Nat} : bch u s q l (k + 1) = c3 (1000 * u + (bz u s q l k).1) (1000 * s + (l * (bz u s q l k).1 + (12 - l) * (bz u s q l k).2) / 12) (1000 * q + (l * (bz u s q l k).1 + (12 - l) * (bz u s q l k).2) / 12) := rfl
def bOk (u s q l : Int) : Prop := (0 ≤ u ∧ u ≤ 9999) ∧ (0 ≤ s ∧ s ≤ 9999) ∧ (0 ≤ q ∧ q ≤ 9999) ∧ (0 ≤ l ∧ l ≤ 12)
theorem b_mul {u s q l : Int} (h : bOk u s q l) {c w : Int} {k : Nat} (hc : 0 ≤ c ∧ c ≤ 10000000 * k) (hw : 0 ≤ w ∧ w ≤ 10000000 * k) : 0 ≤ l * c ∧ 0 ≤ (12 - l) * w ∧ l * c + (12 - l) * w ≤ 12 * (10000000 * k) := by
  obtain ⟨h1, h2, h3, h4⟩ := h
  have e1 : 0 ≤ l * c := Int.mul_nonneg h4.1 hc.1
  have e2 : 0 ≤ (12 - l) * w := Int.mul_nonneg (by omega) hw.1
  have e3 : l * c ≤ l * (10000000 * k) := Int.mul_le_mul_of_nonneg_left hc.2 h4.1
  have e4 : (12 - l) * w ≤ (12 - l) * (10000000 * k) := Int.mul_le_mul_of_nonneg_left hw.2 (by omega)
  have e5 : l * (10000000 * (k : Int)) + (12 - l) * (10000000 * (k : Int)) = 12 * (10000000 * (k : Int)) := by rw [← Int.add_mul]; congr 1; omega
  omega
theorem b3_r {g a b : Int} : (b3 g a b = g ∨ b3 g a b = a ∨ b3 g a b = b) ∧ b3 g a b ≤ g ∧ b3 g a b ≤ a ∧ b3 g a b ≤ b := by
  unfold b3
  split <;> split <;> omega
theorem bz_le {u s q l : Int} (h : bOk u s q l) : ∀ k : Nat, (0 ≤ (bz u s q l k).1 ∧ (bz u s q l k).1 ≤ 10000000 * k) ∧ (0 ≤ (bz u s q l k).2 ∧ (bz u s q l k).2 ≤ 10000000 * k) := by
  intro k
  induction k with
  | zero => simp [bz]
  | succ k ih =>
    have m := b_mul h ih.1 ih.2
    obtain ⟨h1, h2, h3, h4⟩ := h
    have r := @b3_r (1000 * u + (bz u s q l k).1) (1000 * s + (l * (bz u s q l k).1 + (12 - l) * (bz u s q l k).2) / 12) (1000 * q + (l * (bz u s q l k).1 + (12 - l) * (bz u s q l k).2) / 12)
    rw [bz_1, bz_2]
    omega
/-- dearer years with one: two gain no more than one -/
theorem bz_mono {u v s q l : Int} (h : bOk u s q l) (hv : u ≤ v) : ∀ k : Nat, (bz v s q l k).2 - (bz u s q l k).2 ≤ (bz v s q l k).1 - (bz u s q l k).1 ∧ 0 ≤ (bz v s q l k).1 - (bz u s q l k).1 ∧ 0 ≤ (bz v s q l k).2 - (bz u s q l k).2 ∧ (bz v s q l (k + 1)).2 - (bz u s q l (k + 1)).2 ≤ (bz v s q l k).1 - (bz u s q l k).1 := by
  obtain ⟨h1, h2, h3, h4⟩ := h
  have step : ∀ k : Nat, (bz v s q l k).2 - (bz u s q l k).2 ≤ (bz v s q l k).1 - (bz u s q l k).1 → 0 ≤ (bz v s q l k).1 - (bz u s q l k).1 → 0 ≤ (bz v s q l k).2 - (bz u s q l k).2 → (bz v s q l (k + 1)).2 - (bz u s q l (k + 1)).2 ≤ (bz v s q l k).1 - (bz u s q l k).1 ∧ 0 ≤ (bz v s q l (k + 1)).2 - (bz u s q l (k + 1)).2 := by
    intro k a1 a2 a3
    rw [bz_2, bz_2]
    generalize (bz v s q l k).1 = c' at *
    generalize (bz u s q l k).1 = c at *
    generalize (bz v s q l k).2 = w' at *
    generalize (bz u s q l k).2 = w at *
    have e1 : (12 - l) * (w' - w) ≤ (12 - l) * (c' - c) := Int.mul_le_mul_of_nonneg_left a1 (by omega)
    have e2 : 0 ≤ l * (c' - c) := Int.mul_nonneg h4.1 a2
    have e3 : 0 ≤ (12 - l) * (w' - w) := Int.mul_nonneg (by omega) a3
    have e4 : l * (c' - c) + (12 - l) * (c' - c) = 12 * (c' - c) := by rw [← Int.add_mul]; congr 1; omega
    have e5 : l * (c' - c) = l * c' - l * c := Int.mul_sub ..
    have e6 : (12 - l) * (w' - w) = (12 - l) * w' - (12 - l) * w := Int.mul_sub ..
    omega
  intro k
  induction k with
  | zero =>
    have := step 0 (by simp [bz]) (by simp [bz]) (by simp [bz])
    refine ⟨by simp [bz], by simp [bz], by simp [bz], this.1⟩
  | succ k ih =>
    obtain ⟨i1, i2, i3, i4⟩ := ih
    have s1 := step k i1 i2 i3
    have d1 : (bz v s q l (k + 1)).2 - (bz u s q l (k + 1)).2 ≤ (bz v s q l (k + 1)).1 - (bz u s q l (k + 1)).1 := by
      have r := @b3_r (1000 * v + (bz v s q l k).1) (1000 * s + (bz v s q l (k + 1)).2) (1000 * q + (bz v s q l (k + 1)).2)
      have r2 := @b3_r (1000 * u + (bz u s q l k).1) (1000 * s + (bz u s q l (k + 1)).2) (1000 * q + (bz u s q l (k + 1)).2)
      have q1 : (bz v s q l (k + 1)).1 = b3 (1000 * v + (bz v s q l k).1) (1000 * s + (bz v s q l (k + 1)).2) (1000 * q + (bz v s q l (k + 1)).2) := rfl
      have q2 : (bz u s q l (k + 1)).1 = b3 (1000 * u + (bz u s q l k).1) (1000 * s + (bz u s q l (k + 1)).2) (1000 * q + (bz u s q l (k + 1)).2) := rfl
      omega
    have d2 : 0 ≤ (bz v s q l (k + 1)).1 - (bz u s q l (k + 1)).1 := by omega
    have s2 := step (k + 1) d1 d2 s1.2
    exact ⟨d1, d2, s1.2, s2.1⟩
theorem c3_0 {g a b : Int} : c3 g a b = 0 ↔ (g ≤ a ∧ g ≤ b) := by
  unfold c3
  split <;> split <;> omega
theorem bch_mono {u v s q l : Int} (h : bOk u s q l) (hv : u ≤ v) {k : Nat} (hk : 1 ≤ k) (h0 : bch v s q l k = 0) : bch u s q l k = 0 := by
  obtain ⟨k, rfl⟩ : ∃ j, k = j + 1 := ⟨k - 1, by omega⟩
  have m := bz_mono h hv k
  rw [bch_1, c3_0] at h0 ⊢
  rw [bz_2, bz_2] at m
  omega
noncomputable def wz (s q l : Int) (n : Nat) : Nat → Int
  | 0 => if bch 0 s q l n = 0 then 0 else -2
  | v + 1 => if bch ((v + 1 : Nat) : Int) s q l n = 0 then ((v + 1 : Nat) : Int) else wz s q l n v
theorem wz_is {s q l : Int} {n r : Nat} (h0 : bch (r : Int) s q l n = 0) : ∀ m : Nat, (∀ v : Nat, r < v → v ≤ r + m → ¬ bch (v : Int) s q l n = 0) → wz s q l n (r + m) = r := by
  intro m
  induction m with
  | zero =>
    intro _
    cases r with
    | zero =>
      have h0 : bch 0 s q l n = 0 := h0
      show (if bch 0 s q l n = 0 then (0 : Int) else -2) = 0
      rw [if_pos h0]
    | succ r => show (if _ then _ else _) = _; rw [if_pos h0]
  | succ m ih =>
    intro hv
    show (if bch ((r + m + 1 : Nat) : Int) s q l n = 0 then ((r + m + 1 : Nat) : Int) else wz s q l n (r + m)) = _
    rw [if_neg (hv (r + m + 1) (by omega) (by omega))]
    exact ih (fun v a b => hv v a (by omega))
theorem wz_no {s q l : Int} {n : Nat} : ∀ m : Nat, (∀ v : Nat, v ≤ m → ¬ bch (v : Int) s q l n = 0) → wz s q l n m = -2 := by
  intro m
  induction m with
  | zero =>
    intro hv
    have h0 : ¬ bch 0 s q l n = 0 := hv 0 (by omega)
    show (if bch 0 s q l n = 0 then (0 : Int) else -2) = -2
    rw [if_neg h0]
  | succ m ih =>
    intro hv
    show (if bch ((m + 1 : Nat) : Int) s q l n = 0 then ((m + 1 : Nat) : Int) else wz s q l n m) = _
    rw [if_neg (hv (m + 1) (by omega))]
    exact ih (fun v a => hv v (by omega))
theorem plan_z {X : Nat × (Nat → Int32)} {d : Nat} {J M : zA} {R : zR} {P : zP} {u s q l : Int} {n : Nat} (h : bOk u s q l) (hn : n ≤ 20) (hP : P none (zU J 22 2 (bch u s q l n)) (zU M 22 1 (bz u s q l n).1) R) :
    ∀ j k : Nat, k + j = n → zW X (d + 1) 56 62 [some (.ref 22), some (zi (n : Int)), some (zi u), some (zl (1000 * s)), none, some (zl (1000 * q)), none, some (zl l), none, some (zl ((bz u s q l k).2)), none, some (zi (k : Int))] [] (zU J 22 2 (bch u s q l k)) (zU M 22 1 (bz u s q l k).1) R P := by
  intro j
  induction j with
  | zero =>
    intro k hk
    refine z_iload rfl rfl ?_
    refine z_iload rfl rfl ?_
    refine z_icmp_geT rfl (by omega) (by omega) (by omega) ?_
    refine z_vret rfl rfl ?_
    obtain rfl : k = n := by omega
    exact hP
  | succ j ih =>
    intro k hk
    have r := bz_le h k
    have m := b_mul h r.1 r.2
    obtain ⟨g1, g2, g3, g4⟩ := h
    refine z_iload11 rfl ?_
    refine z_iload1 rfl ?_
    refine z_icmp_ge rfl (by omega) (by omega) (fun h1 => ?_) (fun h1 => ?_)
    · refine z_vret rfl gr_56 ?_
      obtain rfl : k = n := by omega
      exact hP
    · refine z_lload7 rfl ?_
      refine z_aload0 rfl ?_
      refine z_getL (v := (bz u s q l k).1) rfl gk_22 (zU_e) ?_
      refine z_lmul (e := l * ((bz u s q l k).1)) rfl rfl ?_
      refine z_pushL (z := 12) rfl rfl ?_
      refine z_lload7 rfl ?_
      refine z_lsub (e := 12 - l) rfl rfl ?_
      refine z_lload9 rfl ?_
      refine z_lmul (e := (12 - l) * ((bz u s q l k).2)) rfl rfl ?_
      refine z_ladd (e := l * ((bz u s q l k).1) + (12 - l) * ((bz u s q l k).2)) rfl rfl ?_
      refine z_pushL (z := 12) rfl rfl ?_
      refine z_ldiv (e := (l * ((bz u s q l k).1) + (12 - l) * ((bz u s q l k).2)) / 12) rfl (by omega) (by omega) rfl ?_
      refine z_lstore (ls1 := [some (.ref 22), some (zi (n : Int)), some (zi u), some (zl (1000 * s)), none, some (zl (1000 * q)), none, some (zl l), none, some (zl ((l * ((bz u s q l k).1) + (12 - l) * ((bz u s q l k).2)) / 12)), none, some (zi (k : Int))]) rfl rfl ?_
      refine z_aload0 rfl ?_
      refine z_pushL (z := 1000) rfl rfl ?_
      refine z_iload2 rfl ?_
      refine z_i2l rfl (by omega) ?_
      refine z_lmul (e := 1000 * u) rfl rfl ?_
      refine z_aload0 rfl ?_
      refine z_getL (v := (bz u s q l k).1) rfl gk_22 (zU_e) ?_
      refine z_ladd (e := 1000 * u + ((bz u s q l k).1)) rfl rfl ?_
      refine z_lload3 rfl ?_
      refine z_lload9 rfl ?_
      refine z_ladd (e := (1000 * s) + (l * ((bz u s q l k).1) + (12 - l) * ((bz u s q l k).2)) / 12) rfl rfl ?_
      refine z_lload5 rfl ?_
      refine z_lload9 rfl ?_
      refine z_ladd (e := (1000 * q) + (l * ((bz u s q l k).1) + (12 - l) * ((bz u s q l k).2)) / 12) rfl rfl ?_
      refine z_callVi (As := [_, _, _]) (le := [some _, some _, none, some _, none, some _, none]) rfl rfl gk_22 (Nat.le_of_ble_eq_true rfl) (Nat.le_of_ble_eq_true rfl) rfl ?_
      refine z_aload0 rfl ?_
      refine z_lload1 rfl ?_
      refine z_putL (y := 1) rfl rfl gk_22 ?_
      refine z_aload0 rfl ?_
      refine z_pushJ gp_57_6 ?_
      refine z_putI (y := 2) rfl rfl gk_22 ?_
      refine z_lload3 rfl ?_
      refine z_aload0 rfl ?_
      refine z_getL (v := 1000 * u + ((bz u s q l k).1)) rfl gk_22 (zU_e) ?_
      refine z_lcmp_ge rfl rfl (by omega) (by omega) (fun h2 => ?_) (fun h2 => ?_)
      · refine z_lload5 gi_57_29 ?_
        refine z_aload0 gi_57_31 ?_
        refine z_getL (v := 1000 * u + ((bz u s q l k).1)) gi_57_32 gk_22 (zU_e) ?_
        refine z_lcmp_ge gi_57_35 gi_57_36 (by omega) (by omega) (fun h3 => ?_) (fun h3 => ?_)
        · refine z_vret gi_57_50 gr_57 ?_
          show zW _ _ _ _ _ _ _ _ _ _
          refine z_iinc (c := 1) (e := (k : Int) + 1) (ls1 := [some (.ref 22), some (zi (n : Int)), some (zi u), some (zl (1000 * s)), none, some (zl (1000 * q)), none, some (zl l), none, some (zl ((l * ((bz u s q l k).1) + (12 - l) * ((bz u s q l k).2)) / 12)), none, some (zi ((k : Int) + 1))]) gi_56_115 rfl rfl rfl rfl ?_
          refine z_goto gi_56_118 ?_
          show zW _ _ _ _ [some (.ref 22), some (zi (n : Int)), some (zi u), some (zl (1000 * s)), none, some (zl (1000 * q)), none, some (zl l), none, some (zl ((l * ((bz u s q l k).1) + (12 - l) * ((bz u s q l k).2)) / 12)), none, some (zi ((k : Int) + 1))] [] _ _ _ _
          have hb : b3 (1000 * u + (bz u s q l k).1) (1000 * s + (l * (bz u s q l k).1 + (12 - l) * (bz u s q l k).2) / 12) (1000 * q + (l * (bz u s q l k).1 + (12 - l) * (bz u s q l k).2) / 12) = 1000 * u + ((bz u s q l k).1) ∧ c3 (1000 * u + (bz u s q l k).1) (1000 * s + (l * (bz u s q l k).1 + (12 - l) * (bz u s q l k).2) / 12) (1000 * q + (l * (bz u s q l k).1 + (12 - l) * (bz u s q l k).2) / 12) = 0 := by
            unfold b3 c3
            constructor <;> (repeat' split) <;> omega
          have h9 := ih (k + 1) (by omega)
          rw [bz_1, bch_1, bz_2, hb.1, hb.2] at h9
          simp only [zU_U]
          exact h9
        · refine z_aload0 gi_57_39 ?_
          refine z_lload5 gi_57_40 ?_
          refine z_putL (y := 1) gi_57_42 rfl gk_22 ?_
          refine z_aload0 gi_57_45 ?_
          refine z_pushJ gp_57_46 ?_
          refine z_putI (y := 2) gi_57_47 rfl gk_22 ?_
          refine z_vret gi_57_50 gr_57 ?_
          show zW _ _ _ _ _ _ _ _ _ _
          refine z_iinc (c := 1) (e := (k : Int) + 1) (ls1 := [some (.ref 22), some (zi (n : Int)), some (zi u), some (zl (1000 * s)), none, some (zl (1000 * q)), none, some (zl l), none, some (zl ((l * ((bz u s q l k).1) + (12 - l) * ((bz u s q l k).2)) / 12)), none, some (zi ((k : Int) + 1))]) gi_56_115 rfl rfl rfl rfl ?_
          refine z_goto gi_56_118 ?_
          show zW _ _ _ _ [some (.ref 22), some (zi (n : Int)), some (zi u), some (zl (1000 * s)), none, some (zl (1000 * q)), none, some (zl l), none, some (zl ((l * ((bz u s q l k).1) + (12 - l) * ((bz u s q l k).2)) / 12)), none, some (zi ((k : Int) + 1))] [] _ _ _ _
          have hb : b3 (1000 * u + (bz u s q l k).1) (1000 * s + (l * (bz u s q l k).1 + (12 - l) * (bz u s q l k).2) / 12) (1000 * q + (l * (bz u s q l k).1 + (12 - l) * (bz u s q l k).2) / 12) = (1000 * q) + (l * ((bz u s q l k).1) + (12 - l) * ((bz u s q l k).2)) / 12 ∧ c3 (1000 * u + (bz u s q l k).1) (1000 * s + (l * (bz u s q l k).1 + (12 - l) * (bz u s q l k).2) / 12) (1000 * q + (l * (bz u s q l k).1 + (12 - l) * (bz u s q l k).2) / 12) = 2 := by
            unfold b3 c3
            constructor <;> (repeat' split) <;> omega
          have h9 := ih (k + 1) (by omega)
          rw [bz_1, bch_1, bz_2, hb.1, hb.2] at h9
          simp only [zU_U]
          exact h9
      · refine z_aload0 rfl ?_
        refine z_lload3 rfl ?_
        refine z_putL (y := 1) rfl rfl gk_22 ?_
        refine z_aload0 rfl ?_
        refine z_pushJ gp_57_25 ?_
        refine z_putI (y := 2) rfl rfl gk_22 ?_
        refine z_lload5 gi_57_29 ?_
        refine z_aload0 gi_57_31 ?_
        refine z_getL (v := (1000 * s) + (l * ((bz u s q l k).1) + (12 - l) * ((bz u s q l k).2)) / 12) gi_57_32 gk_22 (zU_e) ?_
        refine z_lcmp_ge gi_57_35 gi_57_36 (by omega) (by omega) (fun h4 => ?_) (fun h4 => ?_)
        · refine z_vret gi_57_50 gr_57 ?_
          show zW _ _ _ _ _ _ _ _ _ _
          refine z_iinc (c := 1) (e := (k : Int) + 1) (ls1 := [some (.ref 22), some (zi (n : Int)), some (zi u), some (zl (1000 * s)), none, some (zl (1000 * q)), none, some (zl l), none, some (zl ((l * ((bz u s q l k).1) + (12 - l) * ((bz u s q l k).2)) / 12)), none, some (zi ((k : Int) + 1))]) gi_56_115 rfl rfl rfl rfl ?_
          refine z_goto gi_56_118 ?_
          show zW _ _ _ _ [some (.ref 22), some (zi (n : Int)), some (zi u), some (zl (1000 * s)), none, some (zl (1000 * q)), none, some (zl l), none, some (zl ((l * ((bz u s q l k).1) + (12 - l) * ((bz u s q l k).2)) / 12)), none, some (zi ((k : Int) + 1))] [] _ _ _ _
          have hb : b3 (1000 * u + (bz u s q l k).1) (1000 * s + (l * (bz u s q l k).1 + (12 - l) * (bz u s q l k).2) / 12) (1000 * q + (l * (bz u s q l k).1 + (12 - l) * (bz u s q l k).2) / 12) = (1000 * s) + (l * ((bz u s q l k).1) + (12 - l) * ((bz u s q l k).2)) / 12 ∧ c3 (1000 * u + (bz u s q l k).1) (1000 * s + (l * (bz u s q l k).1 + (12 - l) * (bz u s q l k).2) / 12) (1000 * q + (l * (bz u s q l k).1 + (12 - l) * (bz u s q l k).2) / 12) = 1 := by
            unfold b3 c3
            constructor <;> (repeat' split) <;> omega
          have h9 := ih (k + 1) (by omega)
          rw [bz_1, bch_1, bz_2, hb.1, hb.2] at h9
          simp only [zU_U]
          exact h9
        · refine z_aload0 gi_57_39 ?_
          refine z_lload5 gi_57_40 ?_
          refine z_putL (y := 1) gi_57_42 rfl gk_22 ?_
          refine z_aload0 gi_57_45 ?_
          refine z_pushJ gp_57_46 ?_
          refine z_putI (y := 2) gi_57_47 rfl gk_22 ?_
          refine z_vret gi_57_50 gr_57 ?_
          show zW _ _ _ _ _ _ _ _ _ _
          refine z_iinc (c := 1) (e := (k : Int) + 1) (ls1 := [some (.ref 22), some (zi (n : Int)), some (zi u), some (zl (1000 * s)), none, some (zl (1000 * q)), none, some (zl l), none, some (zl ((l * ((bz u s q l k).1) + (12 - l) * ((bz u s q l k).2)) / 12)), none, some (zi ((k : Int) + 1))]) gi_56_115 rfl rfl rfl rfl ?_
          refine z_goto gi_56_118 ?_
          show zW _ _ _ _ [some (.ref 22), some (zi (n : Int)), some (zi u), some (zl (1000 * s)), none, some (zl (1000 * q)), none, some (zl l), none, some (zl ((l * ((bz u s q l k).1) + (12 - l) * ((bz u s q l k).2)) / 12)), none, some (zi ((k : Int) + 1))] [] _ _ _ _
          have hb : b3 (1000 * u + (bz u s q l k).1) (1000 * s + (l * (bz u s q l k).1 + (12 - l) * (bz u s q l k).2) / 12) (1000 * q + (l * (bz u s q l k).1 + (12 - l) * (bz u s q l k).2) / 12) = (1000 * q) + (l * ((bz u s q l k).1) + (12 - l) * ((bz u s q l k).2)) / 12 ∧ c3 (1000 * u + (bz u s q l k).1) (1000 * s + (l * (bz u s q l k).1 + (12 - l) * (bz u s q l k).2) / 12) (1000 * q + (l * (bz u s q l k).1 + (12 - l) * (bz u s q l k).2) / 12) = 2 := by
            unfold b3 c3
            constructor <;> (repeat' split) <;> omega
          have h9 := ih (k + 1) (by omega)
          rw [bz_1, bch_1, bz_2, hb.1, hb.2] at h9
          simp only [zU_U]
          exact h9
theorem plan_s {X : Nat × (Nat → Int32)} {d : Nat} {J M : zA} {R : zR} {u : Int} {n : Nat} (hR : zRok R) (hn8 : 0 ≤ J 8 2 ∧ J 8 2 ≤ 8) (hb : bOk u (cN J 0 8) (cN J 0 9) (cN J 0 10)) (hn : n ≤ 20) : zW X (d + 4) 56 0 (gEn 56 [.ref 22, zi (n : Int), zi u]) [] J M R (zPx none (zU J 22 2 (bch u (cN J 0 8) (cN J 0 9) (cN J 0 10) n)) (zU M 22 1 (bz u (cN J 0 8) (cN J 0 9) (cN J 0 10) n).1) R) := by
  have hb2 := hb
  obtain ⟨g1, g2, g3, g4⟩ := hb2
  show zW _ _ _ _ [some (.ref 22), some (zi (n : Int)), some (zi u), none, none, none, none, none, none, none, none, none] _ _ _ _ _
  refine z_pushL (z := 1000) rfl rfl ?_
  refine z_aload0 rfl ?_
  refine z_getR (r := 8) rfl gk_22 (hR _ rm_22_0) ?_
  refine z_pushJ gp_56_7 ?_
  refine z_pushJ gp_56_8 ?_
  refine z_callVP (As := [_, _]) (v := cN J 0 8) rfl rfl gk_8 (Nat.le_of_ble_eq_true rfl) (Nat.le_of_ble_eq_true rfl) (told_s hR (by omega) (by decide) (by decide)) ?_
  refine z_i2l rfl (by omega) ?_
  refine z_lmul (e := 1000 * (cN J 0 8)) rfl rfl ?_
  refine z_lstore (ls1 := [some (.ref 22), some (zi (n : Int)), some (zi u), some (zl (1000 * (cN J 0 8))), none, none, none, none, none, none, none, none]) rfl rfl ?_
  refine z_pushL (z := 1000) rfl rfl ?_
  refine z_aload0 rfl ?_
  refine z_getR (r := 8) rfl gk_22 (hR _ rm_22_0) ?_
  refine z_pushJ gp_56_23 ?_
  refine z_pushJ gp_56_24 ?_
  refine z_callVP (As := [_, _]) (v := cN J 0 9) rfl rfl gk_8 (Nat.le_of_ble_eq_true rfl) (Nat.le_of_ble_eq_true rfl) (told_s hR (by omega) (by decide) (by decide)) ?_
  refine z_i2l rfl (by omega) ?_
  refine z_lmul (e := 1000 * (cN J 0 9)) rfl rfl ?_
  refine z_lstore (ls1 := [some (.ref 22), some (zi (n : Int)), some (zi u), some (zl (1000 * (cN J 0 8))), none, some (zl (1000 * (cN J 0 9))), none, none, none, none, none, none]) rfl rfl ?_
  refine z_aload0 rfl ?_
  refine z_getR (r := 8) rfl gk_22 (hR _ rm_22_0) ?_
  refine z_pushJ gp_56_37 ?_
  refine z_pushJ gp_56_38 ?_
  refine z_callVP (As := [_, _]) (v := cN J 0 10) rfl rfl gk_8 (Nat.le_of_ble_eq_true rfl) (Nat.le_of_ble_eq_true rfl) (told_s hR (by omega) (by decide) (by decide)) ?_
  refine z_i2l rfl (by omega) ?_
  refine z_lstore (ls1 := [some (.ref 22), some (zi (n : Int)), some (zi u), some (zl (1000 * (cN J 0 8))), none, some (zl (1000 * (cN J 0 9))), none, some (zl (cN J 0 10)), none, none, none, none]) rfl rfl ?_
  refine z_pushL (z := 0) rfl rfl ?_
  refine z_lstore (ls1 := [some (.ref 22), some (zi (n : Int)), some (zi u), some (zl (1000 * (cN J 0 8))), none, some (zl (1000 * (cN J 0 9))), none, some (zl (cN J 0 10)), none, some (zl 0), none, none]) rfl rfl ?_
  refine z_aload0 rfl ?_
  refine z_pushL (z := 0) rfl rfl ?_
  refine z_putL (y := 1) rfl rfl gk_22 ?_
  refine z_aload0 rfl ?_
  refine z_pushJ gp_56_55 ?_
  refine z_putI (y := 2) rfl rfl gk_22 ?_
  refine z_pushJ gp_56_59 ?_
  refine z_istore (ls1 := [some (.ref 22), some (zi (n : Int)), some (zi u), some (zl (1000 * (cN J 0 8))), none, some (zl (1000 * (cN J 0 9))), none, some (zl (cN J 0 10)), none, some (zl 0), none, some (zi 0)]) rfl rfl ?_
  show zW _ _ _ _ [some (.ref 22), some (zi (n : Int)), some (zi u), some (zl (1000 * (cN J 0 8))), none, some (zl (1000 * (cN J 0 9))), none, some (zl (cN J 0 10)), none, some (zl 0), none, some (zi 0)] [] _ _ _ _
  exact plan_z hb hn ⟨rfl, rfl, rfl, rfl⟩ n 0 (by omega)
theorem bch_r {u s q l : Int} {n : Nat} : 0 ≤ bch u s q l n ∧ bch u s q l n ≤ 2 := by
  cases n with
  | zero => show 0 ≤ (0 : Int) ∧ (0 : Int) ≤ 2; omega
  | succ n => rw [bch_1]; unfold c3; split <;> split <;> omega
theorem going_s {X : Nat × (Nat → Int32)} {d : Nat} {J M : zA} {R : zR} {u : Int} {n : Nat} (hR : zRok R) (hn8 : 0 ≤ J 8 2 ∧ J 8 2 ≤ 8) (hb : bOk u (cN J 0 8) (cN J 0 9) (cN J 0 10)) (hn : n ≤ 20) : zW X (d + 5) 59 0 (gEn 59 [.ref 22, zi (n : Int), zi u]) [] J M R (zPx (some (zi (if bch u (cN J 0 8) (cN J 0 9) (cN J 0 10) n = 0 then 1 else 0))) (zU J 22 2 (bch u (cN J 0 8) (cN J 0 9) (cN J 0 10) n)) (zU M 22 1 (bz u (cN J 0 8) (cN J 0 9) (cN J 0 10) n).1) R) := by
  have hb2 := hb
  obtain ⟨g1, g2, g3, g4⟩ := hb2
  have r0 := @bch_r u (cN J 0 8) (cN J 0 9) (cN J 0 10) n
  show zW _ _ _ _ [some (.ref 22), some (zi (n : Int)), some (zi u)] _ _ _ _ _
  refine z_aload0 rfl ?_
  refine z_iload1 rfl ?_
  refine z_iload2 rfl ?_
  refine z_callVx (As := [_, _]) rfl rfl gk_22 (Nat.le_of_ble_eq_true rfl) (Nat.le_of_ble_eq_true rfl) (plan_s hR hn8 hb hn) ?_
  show zW _ _ _ _ _ _ _ _ _ _
  refine z_aload0 rfl ?_
  refine z_getI (v := bch u (cN J 0 8) (cN J 0 9) (cN J 0 10) n) rfl gk_22 (zU_e) ?_
  refine z_if_ne rfl (by omega) (fun h1 => ?_) (fun h1 => ?_)
  · refine z_pushJ gp_59_17 ?_
    refine z_bret0 gi_59_18 gr_59 ?_
    refine ⟨congrArg (fun v => some (zi v)) ?_, rfl, rfl, rfl⟩
    split <;> first | rfl | (exfalso; omega)
  · refine z_pushJ gp_59_13 ?_
    refine z_goto rfl ?_
    refine z_bret1 gi_59_18 gr_59 ?_
    refine ⟨congrArg (fun v => some (zi v)) ?_, rfl, rfl, rfl⟩
    split <;> first | rfl | (exfalso; omega)
