/-- all but the text's own rows of work (class: h .. p, stack; reference: facts, pile) -/
noncomputable def kT (x : Nat) (j : Int) : Bool := !((x.beq 1 && decide (10 ≤ j)) || x.beq 7 || x.beq 67 || x.beq 68)
/-- what is kept between calls -/
noncomputable def k50 (j : Int) : Bool := decide (j = 1) || decide (j = 8) || decide (j = 9) || decide (j = 15) || decide (j = 27) || decide (j = 35) || decide (j = 44) || decide (j = 45) || decide (j = 47) || decide (j = 48) || decide (j = 49) || decide (j = 50) || decide (j = 54) || decide (j = 56)
noncomputable def kS (x : Nat) (j : Int) : Bool := bif x.beq 1 then (decide (j = 1) || decide (j = 5)) else bif x.beq 34 then (decide (j = 1) || decide (j = 3)) else bif x.beq 50 then k50 j else bif x.beq 10 then decide (j = 12) else !(x.beq 7 || (Nat.ble 10 x && Nat.ble x 22) || (Nat.ble 67 x && Nat.ble x 72))
noncomputable def kM (x : Nat) (_ : Int) : Bool := !(x.beq 22 || x.beq 73 || x.beq 74 || x.beq 86)
theorem beq_f {x n : Nat} (h : x ≠ n) : x.beq n = false := by
  cases hb : x.beq n with
  | false => rfl
  | true => exact absurd (Nat.eq_of_beq_eq_true hb) h
theorem kT_n {x : Nat} {j : Int} (h1 : x ≠ 1) (h7 : x ≠ 7) (h67 : x ≠ 67) (h68 : x ≠ 68) : kT x j = true := by
  unfold kT
  rw [beq_f h1, beq_f h7, beq_f h67, beq_f h68]
  rfl
theorem kS_T : ∀ x j, kS x j = true → kT x j = true := by
  intro x j h
  by_cases h1 : x = 1
  · subst h1
    have h : (decide (j = 1) || decide (j = 5)) = true := h
    simp only [Bool.or_eq_true, decide_eq_true_eq] at h
    rcases h with rfl | rfl <;> rfl
  · by_cases h7 : x = 7
    · subst h7; cases h
    · by_cases h67 : x = 67
      · subst h67; cases h
      · by_cases h68 : x = 68
        · subst h68; cases h
        · exact kT_n h1 h7 h67 h68
theorem kT_b {x : Nat} {j : Int} (h : 8 ≤ x ∧ x ≤ 66) : kT x j = true := kT_n (by omega) (by omega) (by omega) (by omega)
theorem cN_k {A J : zA} (h : zK kT A J) : cN J = cN A := by
  funext p w
  unfold cN
  rw [h 8 2 rfl, h 9 _ rfl, h 9 _ rfl]
theorem rN_k {A J : zA} (h : zK kT A J) : rN J = rN A := by
  funext p w
  unfold rN
  rw [h 50 1 rfl, h 56 _ rfl]
  by_cases c : 0 ≤ w ∧ w < 5 ∧ 0 ≤ p ∧ p < A 50 1
  · rw [if_pos c, if_pos c]
    exact h _ _ (kT_b (by omega))
  · rw [if_neg c, if_neg c]
noncomputable def ab (x : Int) : Int := if 0 ≤ x then x else -x
theorem ab_r {x : Int} : 0 ≤ ab x ∧ (ab x = x ∨ ab x = -x) := by unfold ab; split <;> omega
noncomputable def sAll (N : Int → Int → Int) : Nat → Int
  | 0 => N 0 5
  | k + 1 => sAll N k + N k 2
noncomputable def sShare (N : Int → Int → Int) (n p : Int) : Int := if sAll N n.toNat ≤ 0 then 0 else 1000000 * N p 2 / sAll N n.toNat
noncomputable def sGone (N : Int → Int → Int) (n : Int) : Int := if sAll N n.toNat ≤ 0 then 0 else 1000000 * N 0 5 / sAll N n.toNat
noncomputable def sYards (N : Int → Int → Int) (x y p : Int) : Int := ab (x - N p 0) + ab (y - N p 1)
noncomputable def sWay (N : Int → Int → Int) (f p : Int) : Int := (sYards N (N (if f < 0 then 0 else f) 0) (N (if f < 0 then 0 else f) 1) p + N 0 7 - 1) / N 0 7
/-- the law's text: of h, d, k, m, c, p -/
abbrev zX : Type := Int → Int → Int → Int → Int → Int → Int
noncomputable def sCur (N : Int → Int → Int) (m : Int) : Int := if m < N 0 6 then N 0 6 - m else 0
noncomputable def tw (T : zX) (N : Int → Int → Int) (p k m : Int) : Int := if T (N p 3) (N p 4) k m (sCur N m) p < 0 then 0 else if 12 < T (N p 3) (N p 4) k m (sCur N m) p then 12 else T (N p 3) (N p 4) k m (sCur N m) p
theorem tw_r {T : zX} {N : Int → Int → Int} {p k m : Int} : 0 ≤ tw T N p k m ∧ tw T N p k m ≤ 12 := by unfold tw; split; omega; split <;> omega
noncomputable def lf (T : zX) (N : Int → Int → Int) (s p k m : Int) : Int := s * (12 - tw T N p k m) / 12
noncomputable def lB (T : zX) (N : Int → Int → Int) (p : Int) : Nat → Int → Int → Int → Int
  | 0, s, _, _ => s
  | n + 1, s, k, m => lB T N p n (lf T N s p k m) (k + 1) (m + 1)
theorem lf_r {T : zX} {N : Int → Int → Int} {s p k m : Int} (h : 0 ≤ s) : 0 ≤ lf T N s p k m ∧ lf T N s p k m ≤ s ∧ 0 ≤ s * (12 - tw T N p k m) ∧ s * (12 - tw T N p k m) ≤ 12 * s := by
  have r := @tw_r T N p k m
  have e1 : 0 ≤ s * (12 - tw T N p k m) := Int.mul_nonneg h (by omega)
  have e2 : s * (12 - tw T N p k m) ≤ s * 12 := Int.mul_le_mul_of_nonneg_left (by omega) h
  unfold lf
  omega
theorem lB_0 {T : zX} {N : Int → Int → Int} {p : Int} : ∀ (n : Nat) (k m : Int), lB T N p n 0 k m = 0 := by
  intro n
  induction n with
  | zero => intro k m; rfl
  | succ n ih =>
    intro k m
    show lB T N p n (lf T N 0 p k m) (k + 1) (m + 1) = 0
    have e : lf T N 0 p k m = 0 := by unfold lf; rw [Int.zero_mul]; rfl
    rw [e]
    exact ih _ _
theorem lB_r {T : zX} {N : Int → Int → Int} {p : Int} : ∀ (n : Nat) (s k m : Int), 0 ≤ s → 0 ≤ lB T N p n s k m ∧ lB T N p n s k m ≤ s := by
  intro n
  induction n with
  | zero => intro s k m h; exact ⟨h, Int.le_refl s⟩
  | succ n ih =>
    intro s k m h
    have r := @lf_r T N s p k m h
    have i := ih (lf T N s p k m) (k + 1) (m + 1) r.1
    show 0 ≤ lB T N p n (lf T N s p k m) (k + 1) (m + 1) ∧ lB T N p n (lf T N s p k m) (k + 1) (m + 1) ≤ s
    omega
theorem zN0 {n : Int} {N : Int → Int → Int} (h : zNr n N) (p : Int) : 0 ≤ N p 0 ∧ N p 0 ≤ 99 := h.1 p
theorem zN1 {n : Int} {N : Int → Int → Int} (h : zNr n N) (p : Int) : 0 ≤ N p 1 ∧ N p 1 ≤ 99 := h.2.1 p
theorem zN2 {n : Int} {N : Int → Int → Int} (h : zNr n N) (p : Int) : 0 ≤ N p 2 ∧ N p 2 ≤ 99 := h.2.2.1 p
theorem zN3 {n : Int} {N : Int → Int → Int} (h : zNr n N) (p : Int) : 0 ≤ N p 3 ∧ N p 3 ≤ 9 := h.2.2.2.1 p
theorem zN4 {n : Int} {N : Int → Int → Int} (h : zNr n N) (p : Int) : 0 ≤ N p 4 ∧ N p 4 ≤ 9 := h.2.2.2.2.1 p
theorem zN5 {n : Int} {N : Int → Int → Int} (h : zNr n N) : 0 ≤ N 0 5 ∧ N 0 5 ≤ 99 := h.2.2.2.2.2.1
theorem zN6 {n : Int} {N : Int → Int → Int} (h : zNr n N) : 0 ≤ N 0 6 ∧ N 0 6 ≤ 999 := h.2.2.2.2.2.2.1
theorem zN7 {n : Int} {N : Int → Int → Int} (h : zNr n N) : 1 ≤ N 0 7 ∧ N 0 7 ≤ 99 := h.2.2.2.2.2.2.2.1
theorem zN8 {n : Int} {N : Int → Int → Int} (h : zNr n N) : 0 ≤ N 0 8 ∧ N 0 8 ≤ 9999 := h.2.2.2.2.2.2.2.2.1
theorem zN9 {n : Int} {N : Int → Int → Int} (h : zNr n N) : 0 ≤ N 0 9 ∧ N 0 9 ≤ 9999 := h.2.2.2.2.2.2.2.2.2.1
theorem zN10 {n : Int} {N : Int → Int → Int} (h : zNr n N) : 0 ≤ N 0 10 ∧ N 0 10 ≤ 12 := h.2.2.2.2.2.2.2.2.2.2.1
theorem zN11 {n : Int} {N : Int → Int → Int} (h : zNr n N) : 0 ≤ N 0 11 ∧ N 0 11 ≤ 9999 := h.2.2.2.2.2.2.2.2.2.2.2.1
theorem zN12 {n : Int} {N : Int → Int → Int} (h : zNr n N) : 1 ≤ N 0 12 ∧ N 0 12 ≤ 99 := h.2.2.2.2.2.2.2.2.2.2.2.2.1
theorem zN13 {n : Int} {N : Int → Int → Int} (h : zNr n N) : 1 ≤ N 0 13 ∧ N 0 13 ≤ 99 := h.2.2.2.2.2.2.2.2.2.2.2.2.2.1
theorem zNn {n : Int} {N : Int → Int → Int} (h : zNr n N) : 0 ≤ n ∧ n ≤ 8 := h.2.2.2.2.2.2.2.2.2.2.2.2.2.2
theorem sAll_r {n : Int} {N : Int → Int → Int} (h : zNr n N) : ∀ k : Nat, 0 ≤ sAll N k ∧ sAll N k ≤ 99 + 99 * k := by
  intro k
  induction k with
  | zero => have := zN5 h; show 0 ≤ N 0 5 ∧ N 0 5 ≤ _; omega
  | succ k ih => have := zN2 h k; show 0 ≤ sAll N k + N k 2 ∧ sAll N k + N k 2 ≤ _; omega
theorem sAll_p {n : Int} {N : Int → Int → Int} (h : zNr n N) (p : Nat) : ∀ k : Nat, p < k → N p 2 ≤ sAll N k := by
  intro k
  induction k with
  | zero => intro hp; omega
  | succ k ih =>
    intro hp
    have r := sAll_r h k
    have r2 := zN2 h k
    show N p 2 ≤ sAll N k + N k 2
    by_cases e : p = k
    · subst e; omega
    · have := ih (by omega); omega
theorem sAll_g {n : Int} {N : Int → Int → Int} (h : zNr n N) : ∀ k : Nat, N 0 5 ≤ sAll N k := by
  intro k
  induction k with
  | zero => exact Int.le_refl _
  | succ k ih => have r2 := zN2 h k; show N 0 5 ≤ sAll N k + N k 2; omega
theorem sShare_r {n : Int} {N : Int → Int → Int} (h : zNr n N) {p : Int} (hp : 0 ≤ p ∧ p < n) : 0 ≤ sShare N n p ∧ sShare N n p ≤ 1000000 := by
  have r := sAll_r h n.toNat
  have r2 := zN2 h p
  have e := sAll_p h p.toNat n.toNat (by omega)
  rw [show ((p.toNat : Nat) : Int) = p by omega] at e
  unfold sShare
  split
  · omega
  · refine ⟨Int.ediv_nonneg (by omega) (by omega), ?_⟩
    refine Int.le_of_lt_add_one (Int.ediv_lt_of_lt_mul (by omega) ?_)
    omega
theorem sGone_r {n : Int} {N : Int → Int → Int} (h : zNr n N) : 0 ≤ sGone N n ∧ sGone N n ≤ 1000000 := by
  have r := sAll_r h n.toNat
  have r2 := zN5 h
  have e := sAll_g h n.toNat
  unfold sGone
  split
  · omega
  · refine ⟨Int.ediv_nonneg (by omega) (by omega), ?_⟩
    refine Int.le_of_lt_add_one (Int.ediv_lt_of_lt_mul (by omega) ?_)
    omega
theorem sYards_r {n : Int} {N : Int → Int → Int} (h : zNr n N) {x y p : Int} (hx : 0 ≤ x ∧ x ≤ 99) (hy : 0 ≤ y ∧ y ≤ 99) : 0 ≤ sYards N x y p ∧ sYards N x y p ≤ 198 := by
  have r1 := zN0 h p
  have r2 := zN1 h p
  have a1 := @ab_r (x - N p 0)
  have a2 := @ab_r (y - N p 1)
  unfold sYards
  omega
theorem sWay_r {n : Int} {N : Int → Int → Int} (h : zNr n N) {f p : Int} : 0 ≤ sWay N f p ∧ sWay N f p ≤ 198 := by
  have r1 := sYards_r h (p := p) (zN0 h (if f < 0 then 0 else f)) (zN1 h (if f < 0 then 0 else f))
  have r7 := zN7 h
  unfold sWay
  refine ⟨Int.ediv_nonneg (by omega) (by omega), ?_⟩
  refine Int.le_of_lt_add_one (Int.ediv_lt_of_lt_mul (by omega) ?_)
  have : 199 * 1 ≤ 199 * N 0 7 := Int.mul_le_mul_of_nonneg_left (by omega) (by omega)
  generalize sYards N _ _ p = v at *
  omega
theorem told_k {X : Nat × (Nat → Int32)} {d : Nat} {J M : zA} {R : zR} {A : zA} {N : Int → Int → Int} {n : Int} (hR : zRok R) (hJ : zK kT A J) (hA : cN A = N) (hz : A 8 2 = n) (hN : zNr n N) {p w : Int} (hp : -2147483648 ≤ p ∧ p < 2147483648) (hw : -2147483648 ≤ w ∧ w < 2147483648) : zW X (d + 3) 90 0 (gEn 90 [.ref 8, zi p, zi w]) [] J M R (zPu (N p w) J M R) := by
  rw [← hA, ← cN_k hJ]
  refine told_s hR ?_ hp hw
  rw [hJ 8 2 rfl, hz]
  exact zNn hN
theorem yardsFrom_k {X : Nat × (Nat → Int32)} {d : Nat} {J M : zA} {R : zR} {A : zA} {N : Int → Int → Int} {n : Int} (hR : zRok R) (hJ : zK kT A J) (hA : cN A = N) (hz : A 8 2 = n) (hN : zNr n N) {x y p : Int} (hx : 0 ≤ x ∧ x ≤ 99) (hy : 0 ≤ y ∧ y ≤ 99) (hp : -2147483648 ≤ p ∧ p < 2147483648) : zW X (d + 4) 93 0 (gEn 93 [(.ref 8), (zi x), (zi y), (zi p)]) [] J M R (zPu (sYards N x y p) J M R) := by
  show zW _ _ _ _ [some (.ref 8), some (zi x), some (zi y), some (zi p)] _ _ _ _ _
  refine z_iload1 rfl ?_
  refine z_aload0 rfl ?_
  refine z_iload3 rfl ?_
  refine z_pushJ gp_93_3 ?_
  refine z_callVP (As := [_, _]) (v := N p 0) rfl rfl gk_8 (Nat.le_of_ble_eq_true rfl) (Nat.le_of_ble_eq_true rfl) (told_k hR hJ hA hz hN (by omega) (by decide)) ?_
  have q1 := zN0 hN p
  refine z_isub (e := x - (N p 0)) rfl rfl ?_
  refine z_mabs (e := if 0 ≤ x - (N p 0) then x - (N p 0) else -(x - (N p 0))) rfl (by omega) (Nat.le_of_ble_eq_true rfl) rfl ?_
  refine z_iload2 rfl ?_
  refine z_aload0 rfl ?_
  refine z_iload3 rfl ?_
  refine z_pushJ gp_93_14 ?_
  refine z_callVP (As := [_, _]) (v := N p 1) rfl rfl gk_8 (Nat.le_of_ble_eq_true rfl) (Nat.le_of_ble_eq_true rfl) (told_k hR hJ hA hz hN (by omega) (by decide)) ?_
  have q2 := zN1 hN p
  refine z_isub (e := y - (N p 1)) rfl rfl ?_
  refine z_mabs (e := if 0 ≤ y - (N p 1) then y - (N p 1) else -(y - (N p 1))) rfl (by omega) (Nat.le_of_ble_eq_true rfl) rfl ?_
  refine z_iadd (e := (if 0 ≤ x - (N p 0) then x - (N p 0) else -(x - (N p 0))) + (if 0 ≤ y - (N p 1) then y - (N p 1) else -(y - (N p 1)))) rfl rfl ?_
  refine z_iret rfl gr_93 ?_
  exact ⟨rfl, rfl, rfl, rfl⟩
theorem way_k {X : Nat × (Nat → Int32)} {d : Nat} {J M : zA} {R : zR} {A : zA} {N : Int → Int → Int} {n : Int} (hR : zRok R) (hJ : zK kT A J) (hA : cN A = N) (hz : A 8 2 = n) (hN : zNr n N) {f p : Int} (hf : -2147483648 ≤ f ∧ f < 2147483648) (hp : -2147483648 ≤ p ∧ p < 2147483648) : zW X (d + 5) 94 0 (gEn 94 [(.ref 8), (zi f), (zi p)]) [] J M R (zPu (sWay N f p) J M R) := by
  have q7 := zN7 hN
  show zW _ _ _ _ [some (.ref 8), some (zi f), some (zi p), none, none, none] _ _ _ _ _
  refine z_pushJ gp_94_0 ?_
  refine z_iload1 rfl ?_
  refine z_mmax (e := if 0 < f then f else 0) rfl zr_0 (by omega) (Nat.le_of_ble_eq_true rfl) rfl ?_
  refine z_istore (ls1 := [some (.ref 8), some (zi f), some (zi p), some (zi (if 0 < f then f else 0)), none, none]) rfl rfl ?_
  refine z_aload0 rfl ?_
  refine z_aload0 rfl ?_
  refine z_iload3 rfl ?_
  refine z_pushJ gp_94_9 ?_
  refine z_callVP (As := [_, _]) (v := N (if 0 < f then f else 0) 0) rfl rfl gk_8 (Nat.le_of_ble_eq_true rfl) (Nat.le_of_ble_eq_true rfl) (told_k hR hJ hA hz hN (by omega) (by decide)) ?_
  have q1 := zN0 hN (if 0 < f then f else 0)
  refine z_aload0 rfl ?_
  refine z_iload3 rfl ?_
  refine z_pushJ gp_94_15 ?_
  refine z_callVP (As := [_, _]) (v := N (if 0 < f then f else 0) 1) rfl rfl gk_8 (Nat.le_of_ble_eq_true rfl) (Nat.le_of_ble_eq_true rfl) (told_k hR hJ hA hz hN (by omega) (by decide)) ?_
  have q2 := zN1 hN (if 0 < f then f else 0)
  refine z_iload2 rfl ?_
  refine z_callVP (As := [_, _, _]) (v := sYards N (N (if 0 < f then f else 0) 0) (N (if 0 < f then f else 0) 1) p) rfl rfl gk_8 (Nat.le_of_ble_eq_true rfl) (Nat.le_of_ble_eq_true rfl) (yardsFrom_k hR hJ hA hz hN (by omega) (by omega) (by omega)) ?_
  have q3 := sYards_r hN (x := N (if 0 < f then f else 0) 0) (y := N (if 0 < f then f else 0) 1) (p := p) (by omega) (by omega)
  refine z_istore (ls1 := [some (.ref 8), some (zi f), some (zi p), some (zi (if 0 < f then f else 0)), some (zi (sYards N (N (if 0 < f then f else 0) 0) (N (if 0 < f then f else 0) 1) p)), none]) rfl rfl ?_
  refine z_pushJ gp_94_25 ?_
  refine z_aload0 rfl ?_
  refine z_pushJ gp_94_27 ?_
  refine z_pushJ gp_94_28 ?_
  refine z_callVP (As := [_, _]) (v := N 0 7) rfl rfl gk_8 (Nat.le_of_ble_eq_true rfl) (Nat.le_of_ble_eq_true rfl) (told_k hR hJ hA hz hN (by decide) (by decide)) ?_
  have q4 := zN7 hN
  refine z_mmax (e := if 1 < (N 0 7) then N 0 7 else 1) rfl zr_1 (by omega) (Nat.le_of_ble_eq_true rfl) rfl ?_
  refine z_istore (ls1 := [some (.ref 8), some (zi f), some (zi p), some (zi (if 0 < f then f else 0)), some (zi (sYards N (N (if 0 < f then f else 0) 0) (N (if 0 < f then f else 0) 1) p)), some (zi (if 1 < (N 0 7) then N 0 7 else 1))]) rfl rfl ?_
  refine z_iload4 rfl ?_
  refine z_iload5 rfl ?_
  refine z_iadd (e := (sYards N (N (if 0 < f then f else 0) 0) (N (if 0 < f then f else 0) 1) p) + (if 1 < (N 0 7) then N 0 7 else 1)) rfl rfl ?_
  refine z_pushJ gp_94_43 ?_
  refine z_isub (e := (sYards N (N (if 0 < f then f else 0) 0) (N (if 0 < f then f else 0) 1) p) + (if 1 < (N 0 7) then N 0 7 else 1) - 1) rfl rfl ?_
  refine z_iload5 rfl ?_
  refine z_idiv (e := ((sYards N (N (if 0 < f then f else 0) 0) (N (if 0 < f then f else 0) 1) p) + (if 1 < (N 0 7) then N 0 7 else 1) - 1) / (if 1 < (N 0 7) then N 0 7 else 1)) rfl (by omega) (by omega) rfl ?_
  refine z_iret rfl gr_94 ?_
  have e : (if 1 < N 0 7 then N 0 7 else 1) = N 0 7 := by split <;> omega
  have e2 : (if 0 < f then f else 0) = (if f < 0 then 0 else f) := by split <;> split <;> omega
  refine ⟨congrArg (fun v => some (zi v)) ?_, rfl, rfl, rfl⟩
  unfold sWay
  rw [e, e2]
theorem allOdds_z {X : Nat × (Nat → Int32)} {d : Nat} {J M : zA} {R : zR} {P : zP} {A : zA} {N : Int → Int → Int} {n : Int} (hR : zRok R) (hJ : zK kT A J) (hA : cN A = N) (hz : A 8 2 = n) (hN : zNr n N) (hP : P (some (zi (sAll N n.toNat))) J M R) : ∀ (j k : Nat), (k : Int) + j = n → zW X (d + 4) 95 9 [some (.ref 8), some (zi (sAll N k)), some (zi (k : Int))] [] J M R P := by
  intro j
  induction j with
  | zero =>
    intro k hk
    have q := zNn hN
    have r := sAll_r hN k
    refine z_iload rfl rfl ?_
    refine z_aload rfl rfl ?_
    refine z_getI (v := n) rfl rfl ((hJ 8 2 rfl).trans hz) ?_
    refine z_icmp_geT rfl (by omega) (by omega) (by omega) ?_
    refine z_iload rfl rfl ?_
    refine z_iret rfl rfl ?_
    rw [show k = n.toNat by omega]
    exact hP
  | succ j ih =>
    intro k hk
    have q := zNn hN
    have r := sAll_r hN k
    refine z_iload2 rfl ?_
    refine z_aload0 rfl ?_
    refine z_getI (v := n) rfl gk_8 ((hJ 8 2 rfl).trans hz) ?_
    refine z_icmp_ge rfl (by omega) (by omega) (fun h1 => ?_) (fun h1 => ?_)
    · refine z_iload1 rfl ?_
      refine z_iret rfl gr_95 ?_
      exfalso
      omega
    · refine z_iload1 rfl ?_
      refine z_aload0 rfl ?_
      refine z_iload2 rfl ?_
      refine z_pushJ gp_95_20 ?_
      refine z_callVP (As := [_, _]) (v := N (k : Int) 2) rfl rfl gk_8 (Nat.le_of_ble_eq_true rfl) (Nat.le_of_ble_eq_true rfl) (told_k hR hJ hA hz hN (by omega) (by decide)) ?_
      have q2 := zN2 hN (k : Int)
      refine z_iadd (e := (sAll N k) + (N (k : Int) 2)) rfl rfl ?_
      refine z_istore (ls1 := [some (.ref 8), some (zi ((sAll N k) + (N (k : Int) 2))), some (zi (k : Int))]) rfl rfl ?_
      refine z_iinc (c := 1) (e := (k : Int) + 1) (ls1 := [some (.ref 8), some (zi ((sAll N k) + (N (k : Int) 2))), some (zi ((k : Int) + 1))]) rfl rfl rfl rfl rfl ?_
      refine z_goto rfl ?_
      show zW _ _ _ _ [some (.ref 8), some (zi ((sAll N k) + (N (k : Int) 2))), some (zi ((k : Int) + 1))] [] _ _ _ _
      have e := ih (k + 1) (by omega)
      exact e
theorem allOdds_k {X : Nat × (Nat → Int32)} {d : Nat} {J M : zA} {R : zR} {A : zA} {N : Int → Int → Int} {n : Int} (hR : zRok R) (hJ : zK kT A J) (hA : cN A = N) (hz : A 8 2 = n) (hN : zNr n N) : zW X (d + 4) 95 0 (gEn 95 [(.ref 8)]) [] J M R (zPu (sAll N n.toNat) J M R) := by
  have q := zNn hN
  show zW _ _ _ _ [some (.ref 8), none, none] _ _ _ _ _
  refine z_aload0 rfl ?_
  refine z_pushJ gp_95_1 ?_
  refine z_pushJ gp_95_2 ?_
  refine z_callVP (As := [_, _]) (v := N 0 5) rfl rfl gk_8 (Nat.le_of_ble_eq_true rfl) (Nat.le_of_ble_eq_true rfl) (told_k hR hJ hA hz hN (by decide) (by decide)) ?_
  have q1 := zN5 hN
  refine z_istore (ls1 := [some (.ref 8), some (zi (N 0 5)), none]) rfl rfl ?_
  refine z_pushJ gp_95_7 ?_
  refine z_istore (ls1 := [some (.ref 8), some (zi (N 0 5)), some (zi 0)]) rfl rfl ?_
  show zW _ _ _ _ [some (.ref 8), some (zi (N 0 5)), some (zi 0)] [] _ _ _ _
  exact allOdds_z hR hJ hA hz hN ⟨rfl, rfl, rfl, rfl⟩ n.toNat 0 (by omega)
theorem shareBy_k {X : Nat × (Nat → Int32)} {d : Nat} {J M : zA} {R : zR} {A : zA} {N : Int → Int → Int} {n : Int} (hR : zRok R) (hJ : zK kT A J) (hA : cN A = N) (hz : A 8 2 = n) (hN : zNr n N) {p : Int} (hp : -2147483648 ≤ p ∧ p < 2147483648) : zW X (d + 5) 96 0 (gEn 96 [(.ref 8), (zi p)]) [] J M R (zPu (sShare N n p) J M R) := by
  have q := zNn hN
  have r := sAll_r hN n.toNat
  show zW _ _ _ _ [some (.ref 8), some (zi p), none] _ _ _ _ _
  refine z_aload0 rfl ?_
  refine z_callVP (As := []) (v := sAll N n.toNat) rfl rfl gk_8 (Nat.le_of_ble_eq_true rfl) (Nat.le_of_ble_eq_true rfl) (allOdds_k hR hJ hA hz hN) ?_
  refine z_istore (ls1 := [some (.ref 8), some (zi p), some (zi (sAll N n.toNat))]) rfl rfl ?_
  refine z_iload2 rfl ?_
  refine z_if_gt rfl (by omega) (fun h1 => ?_) (fun h1 => ?_)
  · refine z_pushJ gp_96_13 ?_
    refine z_aload0 rfl ?_
    refine z_iload1 rfl ?_
    refine z_pushJ gp_96_17 ?_
    refine z_callVP (As := [_, _]) (v := N p 2) rfl rfl gk_8 (Nat.le_of_ble_eq_true rfl) (Nat.le_of_ble_eq_true rfl) (told_k hR hJ hA hz hN (by omega) (by decide)) ?_
    have q2 := zN2 hN p
    refine z_imul (e := 1000000 * (N p 2)) rfl rfl ?_
    refine z_iload2 rfl ?_
    refine z_idiv (e := 1000000 * (N p 2) / (sAll N n.toNat)) rfl (by omega) (by omega) rfl ?_
    refine z_iret gi_96_24 gr_96 ?_
    refine ⟨congrArg (fun v => some (zi v)) ?_, rfl, rfl, rfl⟩
    unfold sShare
    rw [if_neg (by omega)]
  · refine z_pushJ gp_96_9 ?_
    refine z_goto rfl ?_
    refine z_iret gi_96_24 gr_96 ?_
    refine ⟨congrArg (fun v => some (zi v)) ?_, rfl, rfl, rfl⟩
    unfold sShare
    rw [if_pos (by omega)]
theorem shareGone_k {X : Nat × (Nat → Int32)} {d : Nat} {J M : zA} {R : zR} {A : zA} {N : Int → Int → Int} {n : Int} (hR : zRok R) (hJ : zK kT A J) (hA : cN A = N) (hz : A 8 2 = n) (hN : zNr n N) : zW X (d + 5) 97 0 (gEn 97 [(.ref 8)]) [] J M R (zPu (sGone N n) J M R) := by
  have q := zNn hN
  have r := sAll_r hN n.toNat
  show zW _ _ _ _ [some (.ref 8), none] _ _ _ _ _
  refine z_aload0 rfl ?_
  refine z_callVP (As := []) (v := sAll N n.toNat) rfl rfl gk_8 (Nat.le_of_ble_eq_true rfl) (Nat.le_of_ble_eq_true rfl) (allOdds_k hR hJ hA hz hN) ?_
  refine z_istore (ls1 := [some (.ref 8), some (zi (sAll N n.toNat))]) rfl rfl ?_
  refine z_iload1 rfl ?_
  refine z_if_gt rfl (by omega) (fun h1 => ?_) (fun h1 => ?_)
  · refine z_pushJ gp_97_13 ?_
    refine z_aload0 rfl ?_
    refine z_pushJ gp_97_16 ?_
    refine z_pushJ gp_97_17 ?_
    refine z_callVP (As := [_, _]) (v := N 0 5) rfl rfl gk_8 (Nat.le_of_ble_eq_true rfl) (Nat.le_of_ble_eq_true rfl) (told_k hR hJ hA hz hN (by decide) (by decide)) ?_
    have q2 := zN5 hN
    refine z_imul (e := 1000000 * (N 0 5)) rfl rfl ?_
    refine z_iload1 rfl ?_
    refine z_idiv (e := 1000000 * (N 0 5) / (sAll N n.toNat)) rfl (by omega) (by omega) rfl ?_
    refine z_iret gi_97_24 gr_97 ?_
    refine ⟨congrArg (fun v => some (zi v)) ?_, rfl, rfl, rfl⟩
    unfold sGone
    rw [if_neg (by omega)]
  · refine z_pushJ gp_97_9 ?_
    refine z_goto rfl ?_
    refine z_iret gi_97_24 gr_97 ?_
    refine ⟨congrArg (fun v => some (zi v)) ?_, rfl, rfl, rfl⟩
    unfold sGone
    rw [if_pos (by omega)]
noncomputable abbrev zPk (v : Int) (A M : zA) (R : zR) : zP := fun r J2 M2 R2 => r = some (zi v) ∧ zK kT A J2 ∧ M2 = M ∧ R2 = R
theorem z_callVk {X : Nat × (Nat → Int32)} {d k pc nx : Nat} {ls : List (Option Value)} {st : List Value} {J M : zA} {R : zR} {P : zP} {y n b n0 : Nat} {As : List Value} {v : Int} {A : zA} (h0 : gF k pc = some (73, nx, y, n, 0, 0)) (h1 : As.length = n) (hk : (gK 87)[b]? = some (gOwn y, n0)) (hc : (st.map fun v => v.category).sum ≤ 8) (hl : (gLay (.ref b :: As)).length ≤ gMx y) (h5 : zW X d y 0 (gEn y (.ref b :: As)) [] J M R (zPk v A M R)) (kk : ∀ J2, zK kT A J2 → zW X (d + 1) k nx ls (zi v :: st) J2 M R P) : zW X (d + 1) k pc ls (As.reverse ++ (.ref b :: st)) J M R P := z_callV _ h0 h1 hk hc hl h5 (fun r J2 M2 R2 hr => by
  obtain ⟨rfl, h, rfl, rfl⟩ := hr
  exact kk J2 h)
/-- what the class's text answers, by its contract -/
def LawC (X : Nat × (Nat → Int32)) (A : zA) (R : zR) (T : zX) : Prop := ∃ sg vl : Nat, (R 1 3 = some sg ∧ R 1 4 = some vl ∧ ((sg = 3 ∧ vl = 4) ∨ (sg = 5 ∧ vl = 6))) ∧ ∀ (d : Nat) (J M : zA) (h dd k m c p : Int), J 1 5 = A 1 5 → (∀ j, J sg j = A sg j) → (∀ j, J vl j = A vl j) → (-2147483648 ≤ h ∧ h < 2147483648) → (-2147483648 ≤ dd ∧ dd < 2147483648) → (-2147483648 ≤ k ∧ k < 2147483648) → (-2147483648 ≤ m ∧ m < 2147483648) → (-2147483648 ≤ c ∧ c < 2147483648) → (-2147483648 ≤ p ∧ p < 2147483648) → zW X (d + 4) 38 0 (gEn 38 [.ref 1, zi h, zi dd, zi k, zi m, zi c, zi p]) [] J M R (zPk (T h dd k m c p) J M R)
def Tok (T : zX) : Prop := ∀ a b c d e f : Int, -2147483648 ≤ T a b c d e f ∧ T a b c d e f < 2147483648
theorem LawC_A {X : Nat × (Nat → Int32)} {A B : zA} {R : zR} {T : zX} (h : LawC X A R T) (h0 : B 1 5 = A 1 5) (h3 : ∀ j, B 3 j = A 3 j) (h4 : ∀ j, B 4 j = A 4 j) (h5 : ∀ j, B 5 j = A 5 j) (h6 : ∀ j, B 6 j = A 6 j) : LawC X B R T := by
  obtain ⟨sg, vl, r, h⟩ := h
  refine ⟨sg, vl, r, ?_⟩
  have q : (∀ j, B sg j = A sg j) ∧ (∀ j, B vl j = A vl j) := by
    rcases r.2.2 with ⟨rfl, rfl⟩ | ⟨rfl, rfl⟩
    · exact ⟨h3, h4⟩
    · exact ⟨h5, h6⟩
  intro d J M hh dd k m c p e0 e3 e4
  exact h d J M hh dd k m c p (e0.trans h0) (fun j => (e3 j).trans (q.1 j)) (fun j => (e4 j).trans (q.2 j))
theorem LawC_B {X : Nat × (Nat → Int32)} {A B : zA} {R : zR} {T : zX} {sg vl : Nat} (h : LawC X A R T) (r3 : R 1 3 = some sg) (r4 : R 1 4 = some vl) (h0 : B 1 5 = A 1 5) (h3 : ∀ j, B sg j = A sg j) (h4 : ∀ j, B vl j = A vl j) : LawC X B R T := by
  obtain ⟨sg2, vl2, r, h⟩ := h
  obtain rfl : sg = sg2 := Option.some.inj (r3.symm.trans r.1)
  obtain rfl : vl = vl2 := Option.some.inj (r4.symm.trans r.2.1)
  refine ⟨sg, vl, r, ?_⟩
  intro d J M hh dd k m c p e0 e3 e4
  exact h d J M hh dd k m c p (e0.trans h0) (fun j => (e3 j).trans (h3 j)) (fun j => (e4 j).trans (h4 j))
theorem work_k {X : Nat × (Nat → Int32)} {d : Nat} {J M A : zA} {R : zR} {T : zX} (hT : LawC X A R T) (hJ : zK kT A J) {h dd k m c p : Int} (r1 : -2147483648 ≤ h ∧ h < 2147483648) (r2 : -2147483648 ≤ dd ∧ dd < 2147483648) (r3 : -2147483648 ≤ k ∧ k < 2147483648) (r4 : -2147483648 ≤ m ∧ m < 2147483648) (r5 : -2147483648 ≤ c ∧ c < 2147483648) (r6 : -2147483648 ≤ p ∧ p < 2147483648) : zW X (d + 4) 38 0 (gEn 38 [.ref 1, zi h, zi dd, zi k, zi m, zi c, zi p]) [] J M R (zPk (T h dd k m c p) A M R) := by
  obtain ⟨sg, vl, r, hT⟩ := hT
  have q : (∀ j, J sg j = A sg j) ∧ (∀ j, J vl j = A vl j) := by
    rcases r.2.2 with ⟨rfl, rfl⟩ | ⟨rfl, rfl⟩
    · exact ⟨fun j => hJ 3 j rfl, fun j => hJ 4 j rfl⟩
    · exact ⟨fun j => hJ 5 j rfl, fun j => hJ 6 j rfl⟩
  have e := hT d J M h dd k m c p (hJ 1 5 rfl) q.1 q.2 r1 r2 r3 r4 r5 r6
  refine gW_mono e (fun r σ q => zQ_m (fun r J2 M2 R2 hr => ?_) q)
  exact ⟨hr.1, zK_t hJ hr.2.1, hr.2.2⟩
theorem twelfths_k {X : Nat × (Nat → Int32)} {d : Nat} {J M : zA} {R : zR} {A : zA} {N : Int → Int → Int} {n : Int} (hR : zRok R) (hJ : zK kT A J) (hA : cN A = N) (hz : A 8 2 = n) (hN : zNr n N) {T : zX} (hT : LawC X A R T) (hTr : Tok T) {p k m : Int} (hp : -2147483648 ≤ p ∧ p < 2147483648) (hk : -2147483648 ≤ k ∧ k < 2147483648) (hm : 0 ≤ m ∧ m ≤ 10000) : zW X (d + 5) 98 0 (gEn 98 [(.ref 8), (zi p), (zi k), (zi m)]) [] J M R (zPk (tw T N p k m) A M R) := by
  show zW _ _ _ _ [some (.ref 8), some (zi p), some (zi k), some (zi m), none, none] _ _ _ _ _
  refine z_pushJ gp_98_0 ?_
  refine z_aload0 rfl ?_
  refine z_pushJ gp_98_2 ?_
  refine z_pushJ gp_98_3 ?_
  refine z_callVP (As := [_, _]) (v := N 0 6) rfl rfl gk_8 (Nat.le_of_ble_eq_true rfl) (Nat.le_of_ble_eq_true rfl) (told_k hR hJ hA hz hN (by decide) (by decide)) ?_
  have q1 := zN6 hN
  refine z_iload3 rfl ?_
  refine z_isub (e := (N 0 6) - m) rfl rfl ?_
  refine z_mmax (e := if 0 < (N 0 6) - m then (N 0 6) - m else 0) rfl zr_0 (by omega) (Nat.le_of_ble_eq_true rfl) rfl ?_
  refine z_istore (ls1 := [some (.ref 8), some (zi p), some (zi k), some (zi m), some (zi (if 0 < (N 0 6) - m then (N 0 6) - m else 0)), none]) rfl rfl ?_
  refine z_aload0 rfl ?_
  refine z_getR (r := 1) rfl gk_8 (hR _ rm_8_0) ?_
  refine z_aload0 rfl ?_
  refine z_iload1 rfl ?_
  refine z_pushJ gp_98_21 ?_
  refine z_callVP (As := [_, _]) (v := N p 3) rfl rfl gk_8 (Nat.le_of_ble_eq_true rfl) (Nat.le_of_ble_eq_true rfl) (told_k hR hJ hA hz hN (by omega) (by decide)) ?_
  have q2 := zN3 hN p
  refine z_aload0 rfl ?_
  refine z_iload1 rfl ?_
  refine z_pushJ gp_98_27 ?_
  refine z_callVP (As := [_, _]) (v := N p 4) rfl rfl gk_8 (Nat.le_of_ble_eq_true rfl) (Nat.le_of_ble_eq_true rfl) (told_k hR hJ hA hz hN (by omega) (by decide)) ?_
  have q3 := zN4 hN p
  refine z_iload2 rfl ?_
  refine z_iload3 rfl ?_
  refine z_iload4 rfl ?_
  refine z_iload1 rfl ?_
  refine z_callVk (As := [_, _, _, _, _, _]) (v := T (N p 3) (N p 4) k m (if 0 < (N 0 6) - m then (N 0 6) - m else 0) p) rfl rfl gk_1 (Nat.le_of_ble_eq_true rfl) (Nat.le_of_ble_eq_true rfl) (work_k hT hJ (by omega) (by omega) (by omega) (by omega) (by omega) (by omega)) (fun J2 hJ2 => ?_)
  have q4 := hTr (N p 3) (N p 4) k m (if 0 < (N 0 6) - m then (N 0 6) - m else 0) p
  refine z_istore (ls1 := [some (.ref 8), some (zi p), some (zi k), some (zi m), some (zi (if 0 < (N 0 6) - m then (N 0 6) - m else 0)), some (zi (T (N p 3) (N p 4) k m (if 0 < (N 0 6) - m then (N 0 6) - m else 0) p))]) rfl rfl ?_
  refine z_pushJ gp_98_41 ?_
  refine z_pushJ gp_98_42 ?_
  refine z_iload5 rfl ?_
  refine z_mmin (e := if (T (N p 3) (N p 4) k m (if 0 < (N 0 6) - m then (N 0 6) - m else 0) p) < 12 then T (N p 3) (N p 4) k m (if 0 < (N 0 6) - m then (N 0 6) - m else 0) p else 12) rfl zr_12 (by omega) (Nat.le_of_ble_eq_true rfl) rfl ?_
  refine z_mmax (e := if 0 < (if (T (N p 3) (N p 4) k m (if 0 < (N 0 6) - m then (N 0 6) - m else 0) p) < 12 then T (N p 3) (N p 4) k m (if 0 < (N 0 6) - m then (N 0 6) - m else 0) p else 12) then if (T (N p 3) (N p 4) k m (if 0 < (N 0 6) - m then (N 0 6) - m else 0) p) < 12 then T (N p 3) (N p 4) k m (if 0 < (N 0 6) - m then (N 0 6) - m else 0) p else 12 else 0) rfl zr_0 (by omega) (Nat.le_of_ble_eq_true rfl) rfl ?_
  refine z_iret rfl gr_98 ?_
  have e : (if 0 < N 0 6 - m then N 0 6 - m else 0) = sCur N m := by unfold sCur; split <;> split <;> omega
  rw [e]
  refine ⟨congrArg (fun v => some (zi v)) ?_, hJ2, rfl, rfl⟩
  unfold tw
  (repeat' split) <;> omega
theorem leftBehind_z {X : Nat × (Nat → Int32)} {d : Nat} {M : zA} {R : zR} {P : zP} {A : zA} {N : Int → Int → Int} {n : Int} (hR : zRok R) (hA : cN A = N) (hz : A 8 2 = n) (hN : zNr n N) {T : zX} (hT : LawC X A R T) (hTr : Tok T) {c : Nat} {s0 p k m v : Int} (hn : c ≤ 99) (hp : -2147483648 ≤ p ∧ p < 2147483648) (hk : 0 ≤ k ∧ k ≤ 100000000) (hm : 0 ≤ m ∧ m ≤ 1200) : ∀ (j : Nat) (i left : Int) (J : zA), zK kT A J → 0 ≤ i → i + j = c → (0 ≤ left ∧ left ≤ 1000000) → lB T N p j left (k + i) (m + i) = v → (∀ J2, zK kT A J2 → P (some (zi v)) J2 M R) → zW X (d + 6) 99 6 [some (.ref 8), some (zi (c : Int)), some (zi s0), some (zi p), some (zi k), some (zi m), some (zi left), some (zi i)] [] J M R P := by
  intro j
  induction j with
  | zero =>
    intro i left J hJ hi hj hl hv hP
    refine z_iload rfl rfl ?_
    refine z_iload rfl rfl ?_
    refine z_icmp_geT rfl (by omega) (by omega) (by omega) ?_
    refine z_iload rfl rfl ?_
    refine z_iret rfl rfl ?_
    have hv : left = v := hv
    subst hv
    exact hP _ hJ
  | succ j ih =>
    intro i left J hJ hi hj hl hv hP
    have r := @lf_r T N left p (k + i) (m + i) hl.1
    refine z_iload7 rfl ?_
    refine z_iload1 rfl ?_
    refine z_icmp_geF rfl (by omega) (by omega) (by omega) ?_
    refine z_iload6 rfl ?_
    refine z_if_le rfl (by omega) (fun h1 => ?_) (fun h1 => ?_)
    · refine z_iload6 rfl ?_
      refine z_iret rfl gr_99 ?_
      have e0 : left = 0 := by omega
      rw [e0, lB_0] at hv
      subst hv
      rw [e0]
      exact hP _ hJ
    · refine z_iload6 rfl ?_
      refine z_pushJ gp_99_19 ?_
      refine z_aload0 rfl ?_
      refine z_iload3 rfl ?_
      refine z_iload4 rfl ?_
      refine z_iload7 rfl ?_
      refine z_iadd (e := k + i) rfl rfl ?_
      refine z_iload5 rfl ?_
      refine z_iload7 rfl ?_
      refine z_iadd (e := m + i) rfl rfl ?_
      refine z_callVk (As := [_, _, _]) (v := tw T N p (k + i) (m + i)) rfl rfl gk_8 (Nat.le_of_ble_eq_true rfl) (Nat.le_of_ble_eq_true rfl) (twelfths_k hR hJ hA hz hN hT hTr (by omega) (by omega) (by omega)) (fun J2 hJ2 => ?_)
      have q3 := @tw_r T N p (k + i) (m + i)
      refine z_isub (e := 12 - (tw T N p (k + i) (m + i))) rfl rfl ?_
      refine z_imul (e := left * (12 - (tw T N p (k + i) (m + i)))) rfl rfl ?_
      refine z_pushJ gp_99_38 ?_
      refine z_idiv (e := left * (12 - (tw T N p (k + i) (m + i))) / 12) rfl (by omega) (by omega) rfl ?_
      refine z_istore (ls1 := [some (.ref 8), some (zi (c : Int)), some (zi s0), some (zi p), some (zi k), some (zi m), some (zi (left * (12 - (tw T N p (k + i) (m + i))) / 12)), some (zi i)]) rfl rfl ?_
      refine z_iinc (c := 1) (e := i + 1) (ls1 := [some (.ref 8), some (zi (c : Int)), some (zi s0), some (zi p), some (zi k), some (zi m), some (zi (left * (12 - (tw T N p (k + i) (m + i))) / 12)), some (zi (i + 1))]) rfl rfl rfl rfl rfl ?_
      refine z_goto rfl ?_
      show zW _ _ _ _ [some (.ref 8), some (zi (c : Int)), some (zi s0), some (zi p), some (zi k), some (zi m), some (zi (left * (12 - (tw T N p (k + i) (m + i))) / 12)), some (zi (i + 1))] [] _ _ _ _
      refine ih (i + 1) (lf T N left p (k + i) (m + i)) _ hJ2 (by omega) (by omega) (by omega) ?_ hP
      rw [← Int.add_assoc, ← Int.add_assoc]
      exact hv
theorem leftBehind_k {X : Nat × (Nat → Int32)} {d : Nat} {J M : zA} {R : zR} {A : zA} {N : Int → Int → Int} {n : Int} (hR : zRok R) (hJ : zK kT A J) (hA : cN A = N) (hz : A 8 2 = n) (hN : zNr n N) {T : zX} (hT : LawC X A R T) (hTr : Tok T) {c s p k m : Int} (hn : 0 ≤ c ∧ c ≤ 99) (hs : 0 ≤ s ∧ s ≤ 1000000) (hp : -2147483648 ≤ p ∧ p < 2147483648) (hk : 0 ≤ k ∧ k ≤ 100000000) (hm : 0 ≤ m ∧ m ≤ 1200) : zW X (d + 6) 99 0 (gEn 99 [(.ref 8), (zi c), (zi s), (zi p), (zi k), (zi m)]) [] J M R (zPk (lB T N p c.toNat s k m) A M R) := by
  obtain ⟨c, rfl⟩ : ∃ t : Nat, c = t := ⟨c.toNat, by omega⟩
  show zW _ _ _ _ [some (.ref 8), some (zi c), some (zi s), some (zi p), some (zi k), some (zi m), none, none] _ _ _ _ _
  refine z_iload2 rfl ?_
  refine z_istore (ls1 := [some (.ref 8), some (zi c), some (zi s), some (zi p), some (zi k), some (zi m), some (zi s), none]) rfl rfl ?_
  refine z_pushJ gp_99_3 ?_
  refine z_istore (ls1 := [some (.ref 8), some (zi c), some (zi s), some (zi p), some (zi k), some (zi m), some (zi s), some (zi 0)]) rfl rfl ?_
  show zW _ _ _ _ [some (.ref 8), some (zi c), some (zi s), some (zi p), some (zi k), some (zi m), some (zi s), some (zi 0)] [] _ _ _ _
  exact leftBehind_z (c := c) (s0 := s) hR hA hz hN hT hTr (by omega) hp hk hm c 0 s J hJ (by omega) (by omega) hs (by rw [Int.add_zero, Int.add_zero]; rfl) (fun J2 hJ2 => ⟨rfl, hJ2, rfl, rfl⟩)
