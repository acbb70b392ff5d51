theorem zu_r {u : UInt32} (h : u.toNat < 2147483648) : u.toInt32.toInt = (u.toNat : Int) := BitVec.toInt_eq_toNat_of_lt (x := u.toBitVec) (show 2 * u.toNat < 2 ^ 32 by omega)
theorem zu_8 (x : Int) : 0 ≤ zushr x 8 ∧ zushr x 8 < 16777216 := by
  unfold zushr
  rw [show ((Int32.ofInt 8).toUInt32 &&& Int32.toUInt32 31) = 8 by decide]
  generalize (Int32.ofInt x).toUInt32 = u
  have h : (u >>> 8).toNat = u.toNat / 256 := by
    rw [UInt32.toNat_shiftRight, show (8 : UInt32).toNat % 32 = 8 by decide, Nat.shiftRight_eq_div_pow]
  have hu := u.toNat_lt
  rw [zu_r (by omega)]
  omega
theorem zu_4 (x : Int) : 0 ≤ zushr x 4 ∧ zushr x 4 < 268435456 := by
  unfold zushr
  rw [show ((Int32.ofInt 4).toUInt32 &&& Int32.toUInt32 31) = 4 by decide]
  generalize (Int32.ofInt x).toUInt32 = u
  have h : (u >>> 4).toNat = u.toNat / 16 := by
    rw [UInt32.toNat_shiftRight, show (4 : UInt32).toNat % 32 = 4 by decide, Nat.shiftRight_eq_div_pow]
  have hu := u.toNat_lt
  rw [zu_r (by omega)]
  omega
noncomputable def dz (z : Int) : Int := z * 1103515245 + 12345
noncomputable def ly (N : Int → Int → Int) (e : Int) : Nat → Int → Int → Int
  | 0, _, _ => e
  | c + 1, p, r => if r < N p 2 then p else ly N e c (p + 1) (r - N p 2)
theorem ly_1 {N : Int → Int → Int} {e p r : Int} {c : Nat} (h : r < N p 2) : ly N e (c + 1) p r = p := by
  show (if _ then _ else _) = _
  rw [if_pos h]
theorem ly_0 {N : Int → Int → Int} {e p r : Int} {c : Nat} (h : ¬ r < N p 2) : ly N e (c + 1) p r = ly N e c (p + 1) (r - N p 2) := by
  show (if _ then _ else _) = _
  rw [if_neg h]
theorem ly_r {N : Int → Int → Int} {e : Int} : ∀ (c : Nat) (p r : Int), ly N e c p r = e ∨ (p ≤ ly N e c p r ∧ ly N e c p r < p + c) := by
  intro c
  induction c with
  | zero => exact fun _ _ => Or.inl rfl
  | succ c ih =>
    intro p r
    by_cases h : r < N p 2
    · rw [ly_1 h]; exact Or.inr (by omega)
    · rw [ly_0 h]
      rcases ih (p + 1) (r - N p 2) with q | q
      · exact Or.inl q
      · exact Or.inr (by omega)
theorem ly_e {N : Int → Int → Int} (e f : Int) : ∀ (c : Nat) (p r : Int), ly N e c p r = ly N f c p r ∨ (ly N e c p r = e ∧ ly N f c p r = f) := by
  intro c
  induction c with
  | zero => exact fun _ _ => Or.inr ⟨rfl, rfl⟩
  | succ c ih =>
    intro p r
    by_cases h : r < N p 2
    · rw [ly_1 h, ly_1 h]; exact Or.inl rfl
    · rw [ly_0 h, ly_0 h]; exact ih _ _
/-- listening in a place: the seed behind it, and the minute (-1: not found) -/
noncomputable def lq (T : zX) (N : Int → Int → Int) (p l m : Int) : Nat → Int → Int → Int × Int
  | 0, _, z => (z, -1)
  | c + 1, i, z => if zushr (dz z) 8 % 12 < tw T N p (l + i) (m + i) then (dz z, m + i) else lq T N p l m c (i + 1) (dz z)
theorem lq_1 {T : zX} {N : Int → Int → Int} {p l m i z : Int} {c : Nat} (h : zushr (dz z) 8 % 12 < tw T N p (l + i) (m + i)) : lq T N p l m (c + 1) i z = (dz z, m + i) := by
  show (if _ then _ else _) = _
  rw [if_pos h]
theorem lq_0 {T : zX} {N : Int → Int → Int} {p l m i z : Int} {c : Nat} (h : ¬ zushr (dz z) 8 % 12 < tw T N p (l + i) (m + i)) : lq T N p l m (c + 1) i z = lq T N p l m c (i + 1) (dz z) := by
  show (if _ then _ else _) = _
  rw [if_neg h]
theorem lq_r {T : zX} {N : Int → Int → Int} {p l m : Int} (hm : 0 ≤ m) : ∀ (c : Nat) (i z : Int), 0 ≤ i → (lq T N p l m c i z).2 = -1 ∨ (0 ≤ (lq T N p l m c i z).2 ∧ (lq T N p l m c i z).2 < m + i + c) := by
  intro c
  induction c with
  | zero => exact fun _ _ _ => Or.inl rfl
  | succ c ih =>
    intro i z hi
    by_cases h : zushr (dz z) 8 % 12 < tw T N p (l + i) (m + i)
    · rw [lq_1 h]
      refine Or.inr ⟨?_, ?_⟩
      · show 0 ≤ m + i; omega
      · show m + i < _; omega
    · rw [lq_0 h]
      rcases ih (i + 1) (dz z) (by omega) with q | q
      · exact Or.inl q
      · exact Or.inr (by omega)
/-- the k-th two's listening -/
noncomputable def l2 (T : zX) (N : Int → Int → Int) (n : Int) (b : Int → Int) (w : Int) (k : Nat) (z : Int) : Int × Int := lq T N (b (2 * k)) (tli (tS T N n b w k) (b (2 * k))) (tst N (tS T N n b w k) (b (2 * k))) (b (2 * k + 1)).toNat 0 z
/-- the twos from the k-th on -/
noncomputable def sk (T : zX) (N : Int → Int → Int) (n : Int) (b : Int → Int) (w lies : Int) : Nat → Nat → Int → Int × Int
  | 0, _, z => (z, -1)
  | c + 1, k, z => if b (2 * k) = lies then (if 0 ≤ (l2 T N n b w k z).2 then l2 T N n b w k z else sk T N n b w lies c (k + 1) (l2 T N n b w k z).1) else sk T N n b w lies c (k + 1) z
theorem sk_n {T : zX} {N : Int → Int → Int} {n : Int} {b : Int → Int} {w lies : Int} {c k : Nat} {z : Int} (h : ¬ b (2 * k) = lies) : sk T N n b w lies (c + 1) k z = sk T N n b w lies c (k + 1) z := by
  show (if _ then _ else _) = _
  rw [if_neg h]
theorem sk_1 {T : zX} {N : Int → Int → Int} {n : Int} {b : Int → Int} {w lies : Int} {c k : Nat} {z : Int} (h : b (2 * k) = lies) (g : 0 ≤ (l2 T N n b w k z).2) : sk T N n b w lies (c + 1) k z = l2 T N n b w k z := by
  show (if _ then _ else _) = _
  rw [if_pos h, if_pos g]
theorem sk_0 {T : zX} {N : Int → Int → Int} {n : Int} {b : Int → Int} {w lies : Int} {c k : Nat} {z : Int} (h : b (2 * k) = lies) (g : ¬ 0 ≤ (l2 T N n b w k z).2) : sk T N n b w lies (c + 1) k z = sk T N n b w lies c (k + 1) (l2 T N n b w k z).1 := by
  show (if _ then _ else _) = _
  rw [if_pos h, if_neg g]
/-- one draw: the seed, how many, their minutes -/
noncomputable def d1 (T : zX) (N : Int → Int → Int) (n : Int) (b : Int → Int) (w : Int) (K : Nat) (s : Int × Int × Int) : Int × Int × Int :=
  if sAll N n.toNat = 0 then (dz s.1, s.2.1, s.2.2)
  else if ly N (-1) n.toNat 0 (zushr (dz s.1) 4 % sAll N n.toNat) < 0 then (dz s.1, s.2.1, s.2.2)
  else if (sk T N n b w (ly N (-1) n.toNat 0 (zushr (dz s.1) 4 % sAll N n.toNat)) K 0 (dz s.1)).2 < 0 then ((sk T N n b w (ly N (-1) n.toNat 0 (zushr (dz s.1) 4 % sAll N n.toNat)) K 0 (dz s.1)).1, s.2.1, s.2.2)
  else ((sk T N n b w (ly N (-1) n.toNat 0 (zushr (dz s.1) 4 % sAll N n.toNat)) K 0 (dz s.1)).1, s.2.1 + 1, s.2.2 + (sk T N n b w (ly N (-1) n.toNat 0 (zushr (dz s.1) 4 % sAll N n.toNat)) K 0 (dz s.1)).2)
noncomputable def da (T : zX) (N : Int → Int → Int) (n : Int) (b : Int → Int) (w : Int) (K : Nat) : Nat → Int × Int × Int → Int × Int × Int
  | 0, s => s
  | c + 1, s => da T N n b w K c (d1 T N n b w K s)
/-- nothing else but the mark hangs on the mark -/
theorem l2_w {T : zX} {N : Int → Int → Int} {n : Int} {b : Int → Int} {w v : Int} {k : Nat} {z : Int} : l2 T N n b w k z = l2 T N n b v k z := by
  obtain ⟨a, c, d, e, f⟩ := @tS_w T N n b w v k
  unfold l2 tst
  rw [c, d, e]
theorem sk_w {T : zX} {N : Int → Int → Int} {n : Int} {b : Int → Int} {w v lies : Int} : ∀ (c k : Nat) (z : Int), sk T N n b w lies c k z = sk T N n b v lies c k z := by
  intro c
  induction c with
  | zero => exact fun _ _ => rfl
  | succ c ih =>
    intro k z
    have e := @l2_w T N n b w v k z
    by_cases h : b (2 * k) = lies
    · by_cases g : 0 ≤ (l2 T N n b w k z).2
      · rw [sk_1 h g, sk_1 h (by rw [← e]; exact g), e]
      · rw [sk_0 h g, sk_0 h (by rw [← e]; exact g), e]
        exact ih _ _
    · rw [sk_n h, sk_n h]
      exact ih _ _
theorem d1_w {T : zX} {N : Int → Int → Int} {n : Int} {b : Int → Int} {w v : Int} {K : Nat} {s : Int × Int × Int} : d1 T N n b w K s = d1 T N n b v K s := by
  unfold d1
  rw [sk_w (w := w) (v := v)]
theorem da_w {T : zX} {N : Int → Int → Int} {n : Int} {b : Int → Int} {w v : Int} {K : Nat} : ∀ (c : Nat) (s : Int × Int × Int), da T N n b w K c s = da T N n b v K c s := by
  intro c
  induction c with
  | zero => exact fun _ => rfl
  | succ c ih =>
    intro s
    show da T N n b w K c _ = da T N n b v K c _
    rw [d1_w (w := w) (v := v)]
    exact ih _
