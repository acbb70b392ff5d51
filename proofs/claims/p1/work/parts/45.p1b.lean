def f9_buy (a b : Int32) : Int32 := Int32.ofInt (fbuy 20 60 90 3 a.toInt b.toInt)
def f9_waits (a : Int32) : Int32 := Int32.ofInt (fwaits 60 90 3 a.toInt)
abbrev pJ (I : Nat → Nat → Int32) : zA := fun a j => (I a j.toNat).toInt
abbrev pM (L : Nat → Nat → Int64) : zA := fun a j => (L a j.toNat).toInt
theorem pJ_e {I : Nat → Nat → Int32} {a : Nat} {n : Nat} {v : Int32} (h : I a n = v) : pJ I a (n : Int) = v.toInt := by
  show (I a ((n : Int)).toNat).toInt = _
  rw [Int.toNat_natCast, h]
theorem pJ_c {I : Nat → Nat → Int32} {w n : Nat} {v : Int32} (h5 : 5 ≤ w ∧ w < 14) (hn : n = 40 + w) (h : I 9 n = v) : cN (pJ I) 0 (w : Int) = v.toInt := by
  subst hn
  rw [cN_g (by omega)]
  exact pJ_e h
theorem p_rg (a : Int32) : -2147483648 ≤ a.toInt ∧ a.toInt < 2147483648 := ⟨Int32.le_toInt a, Int32.toInt_lt a⟩
theorem gW_I {X : Nat × (Nat → Int32)} {d k pc mc ms : Nat} {ls : List (Option Value)} {st : List Value} {Kd : List (Nat × Nat)} {I : Nat → Nat → Int32} {L : Nat → Nat → Int64} {R : Nat → Nat → Option Nat} {Q : gQ} (h : gW X d k pc mc ms ls st (Kd, zI (pJ I), zL (pM L), R) Q) : gW X d k pc mc ms ls st (Kd, I, L, R) Q := by
  rw [← zI_of I, ← zL_of L] at h
  exact h
theorem p_fr {I : Nat → Nat → Int32} {x a : Nat} {y v : Int} (h : x ≠ a) : zI (zU (pJ I) a y v) x = I x := by
  funext j
  show Int32.ofInt (zU (pJ I) a y v x (j : Int)) = _
  rw [zU_n h]
  exact (congrFun (congrFun (zI_of I) x) j).symm
theorem p_frL {L : Nat → Nat → Int64} {x a : Nat} {y v : Int} (h : x ≠ a) : zL (zU (pM L) a y v) x = L x := by
  funext j
  show Int64.ofInt (zU (pM L) a y v x (j : Int)) = _
  rw [zU_n h]
  exact (congrFun (congrFun (zL_of L) x) j).symm
theorem a1_buy {X : Nat × (Nat → Int32)} {d : Nat} {I : Nat → Nat → Int32} {L : Nat → Nat → Int64} {R : Nat → Nat → Option Nat} (hI : ∀ q ∈ gFlI, I q.1 q.2.1 = q.2.2) (hL : ∀ q ∈ gFlL, L q.1 q.2.1 = q.2.2) (hR : ∀ q ∈ gFlR, R q.1 q.2.1 = some q.2.2) (hZ : zRok R) (a : Int32) (b : Int32) : gW X (d + 12) 118 0 0 0 (gEn 118 [.ref 0, .int a, .int b]) [] (gK 87, I, L, R) (fun r σ => r = some (.int (f9_buy a b)) ∧ gFr σ I L R) := by
  have e8 : cN (pJ I) 0 8 = 60 := pJ_c (w := 8) (by omega) rfl (hI _ fmI_9_48)
  have e9 : cN (pJ I) 0 9 = 90 := pJ_c (w := 9) (by omega) rfl (hI _ fmI_9_49)
  have e10 : cN (pJ I) 0 10 = 3 := pJ_c (w := 10) (by omega) rfl (hI _ fmI_9_50)
  have e11 : cN (pJ I) 0 11 = 20 := pJ_c (w := 11) (by omega) rfl (hI _ fmI_9_51)
  have e2 : pJ I 8 2 = 0 := pJ_e (n := 2) (hI _ fmI_8_2)
  have h := @buy_c X (d + 6) (pJ I) (pM L) R a.toInt b.toInt hZ (by omega) (by rw [e11, e8, e9, e10]; exact ⟨by decide, by decide, by decide, by decide⟩) (p_rg a) (p_rg b)
  rw [e11, e8, e9, e10] at h
  unfold zW zi at h
  rw [zi_eq a, zi_eq b] at h
  refine gW_I (gW_mono h (fun r σ hq => ?_))
  obtain ⟨J', M', R', rfl, hr, ⟨x, y, rfl, rfl⟩, rfl⟩ := hq
  exact ⟨hr, rfl, fun x hx => p_fr (by omega), fun x hx => p_frL (by omega), fun x hx => rfl⟩
theorem a2_buy {X : Nat × (Nat → Int32)} {d : Nat} {I : Nat → Nat → Int32} {L : Nat → Nat → Int64} {R : Nat → Nat → Option Nat} (hI : ∀ q ∈ gFlI, 50 ≤ q.1 → I q.1 q.2.1 = q.2.2) (hL : ∀ q ∈ gFlL, 50 ≤ q.1 → L q.1 q.2.1 = q.2.2) (hR : ∀ q ∈ gFlR, 50 ≤ q.1 → R q.1 q.2.1 = some q.2.2) (hZ : zRoR R) (a : Int32) (b : Int32) : gW X (d + 12) 214 0 0 0 (gEn 214 [.ref 50, .int a, .int b]) [] (gK 87, I, L, R) (fun r _ => r = some (.int (f9_buy a b))) := by
  have e6 : pJ I 56 6 = 20 := pJ_e (n := 6) (hI _ fmI_56_6 (by decide))
  have e3 : pJ I 56 3 = 60 := pJ_e (n := 3) (hI _ fmI_56_3 (by decide))
  have e4 : pJ I 56 4 = 90 := pJ_e (n := 4) (hI _ fmI_56_4 (by decide))
  have e5 : pJ I 56 5 = 3 := pJ_e (n := 5) (hI _ fmI_56_5 (by decide))
  have h := @buy_r X (d + 7) (pJ I) (pM L) R a.toInt b.toInt hZ (by rw [e6, e3, e4, e5]; exact ⟨by decide, by decide, by decide, by decide⟩) (p_rg a) (p_rg b)
  rw [e6, e3, e4, e5] at h
  unfold zW zi at h
  rw [zi_eq a, zi_eq b] at h
  refine gW_I (gW_mono h (fun r σ hq => ?_))
  obtain ⟨J', M', R', rfl, hr, -⟩ := hq
  exact hr
theorem a1_waits {X : Nat × (Nat → Int32)} {d : Nat} {I : Nat → Nat → Int32} {L : Nat → Nat → Int64} {R : Nat → Nat → Option Nat} (hI : ∀ q ∈ gFlI, I q.1 q.2.1 = q.2.2) (hL : ∀ q ∈ gFlL, L q.1 q.2.1 = q.2.2) (hR : ∀ q ∈ gFlR, R q.1 q.2.1 = some q.2.2) (hZ : zRok R) (a : Int32) : gW X (d + 12) 119 0 0 0 (gEn 119 [.ref 0, .int a]) [] (gK 87, I, L, R) (fun r σ => r = some (.int (f9_waits a)) ∧ gFr σ I L R) := by
  have e8 : cN (pJ I) 0 8 = 60 := pJ_c (w := 8) (by omega) rfl (hI _ fmI_9_48)
  have e9 : cN (pJ I) 0 9 = 90 := pJ_c (w := 9) (by omega) rfl (hI _ fmI_9_49)
  have e10 : cN (pJ I) 0 10 = 3 := pJ_c (w := 10) (by omega) rfl (hI _ fmI_9_50)
  have e11 : cN (pJ I) 0 11 = 20 := pJ_c (w := 11) (by omega) rfl (hI _ fmI_9_51)
  have e2 : pJ I 8 2 = 0 := pJ_e (n := 2) (hI _ fmI_8_2)
  have h := @waits_c X (d + 5) (pJ I) (pM L) R a.toInt hZ (by omega) (by rw [e8, e9, e10]; exact ⟨by decide, by decide, by decide, by decide⟩) (p_rg a)
  rw [e8, e9, e10] at h
  unfold zW zi at h
  rw [zi_eq a] at h
  refine gW_I (gW_mono h (fun r σ hq => ?_))
  obtain ⟨J', M', R', rfl, hr, ⟨x, y, rfl, rfl⟩, rfl⟩ := hq
  exact ⟨hr, rfl, fun x hx => p_fr (by omega), fun x hx => p_frL (by omega), fun x hx => rfl⟩
theorem a2_waits {X : Nat × (Nat → Int32)} {d : Nat} {I : Nat → Nat → Int32} {L : Nat → Nat → Int64} {R : Nat → Nat → Option Nat} (hI : ∀ q ∈ gFlI, 50 ≤ q.1 → I q.1 q.2.1 = q.2.2) (hL : ∀ q ∈ gFlL, 50 ≤ q.1 → L q.1 q.2.1 = q.2.2) (hR : ∀ q ∈ gFlR, 50 ≤ q.1 → R q.1 q.2.1 = some q.2.2) (hZ : zRoR R) (a : Int32) : gW X (d + 12) 215 0 0 0 (gEn 215 [.ref 50, .int a]) [] (gK 87, I, L, R) (fun r _ => r = some (.int (f9_waits a))) := by
  have e6 : pJ I 56 6 = 20 := pJ_e (n := 6) (hI _ fmI_56_6 (by decide))
  have e3 : pJ I 56 3 = 60 := pJ_e (n := 3) (hI _ fmI_56_3 (by decide))
  have e4 : pJ I 56 4 = 90 := pJ_e (n := 4) (hI _ fmI_56_4 (by decide))
  have e5 : pJ I 56 5 = 3 := pJ_e (n := 5) (hI _ fmI_56_5 (by decide))
  have h := @waits_r X (d + 8) (pJ I) (pM L) R a.toInt hZ (by rw [e3, e4, e5]; exact ⟨by decide, by decide, by decide, by decide⟩) (by omega) (p_rg a)
  rw [e3, e4, e5] at h
  unfold zW zi at h
  rw [zi_eq a] at h
  refine gW_I (gW_mono h (fun r σ hq => ?_))
  obtain ⟨J', M', R', rfl, hr, -⟩ := hq
  exact hr
