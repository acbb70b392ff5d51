def wornZ : Nat → Int → Int → Int → Int → Int → Int → Int
  | 0, _, _, _, heard, _, _ => heard
  | k + 1, n, w, f, heard, start, other => if start < n then wornZ k n w f (heard + (if n - start < w then n - start else w)) (if start + w < other then other else start + w) (start + w + f) else heard
theorem min_toInt (x y : Int32) : (if y < x then y else x).toInt = if y.toInt < x.toInt then y.toInt else x.toInt := by
  by_cases h : y < x
  · rw [if_pos h, if_pos (Int32.lt_iff_toInt_lt.mp h)]
  · rw [if_neg h, if_neg (fun q => h (Int32.lt_iff_toInt_lt.mpr q))]
theorem max_toInt (x y : Int32) : (if x < y then y else x).toInt = if x.toInt < y.toInt then y.toInt else x.toInt := by
  by_cases h : x < y
  · rw [if_pos h, if_pos (Int32.lt_iff_toInt_lt.mp h)]
  · rw [if_neg h, if_neg (fun q => h (Int32.lt_iff_toInt_lt.mpr q))]
set_option maxHeartbeats 4000000 in
/-- the class's loop of turns -/
theorem worn1 {X : Nat × (Nat → Int32)} {d : Nat} {Kd : List (Nat × Nat)} {I : Nat → Nat → Int32} {L : Nat → Nat → Int64} {R : Nat → Nat → Option Nat} {Q : gQ} {n w f : Int32} {t0 : Option Value} (hn : n.toInt ≤ 9999) (hw1 : 1 ≤ w.toInt) (hw2 : w.toInt ≤ 99) (hf1 : 1 ≤ f.toInt) (hf2 : f.toInt ≤ 99) :
    ∀ (m : Nat) (heard start other turn : Int32) (e8 : Option Value), n.toInt - start.toInt ≤ m → 0 ≤ start.toInt → start.toInt ≤ 20000 → 0 ≤ heard.toInt → heard.toInt ≤ start.toInt → 0 ≤ other.toInt → other.toInt ≤ 20000 → 0 ≤ turn.toInt → turn.toInt ≤ start.toInt →
    (∀ v : Int32, v.toInt = wornZ m n.toInt w.toInt f.toInt heard.toInt start.toInt other.toInt → Q (some (.int v)) (Kd, I, L, R)) →
    gW X (d + 1) 121 47 0 0 [t0, some (.int n), some (.int w), some (.int f), some (.int heard), some (.int start), some (.int other), some (.int turn), e8] [] (Kd, I, L, R) Q := by
  intro m
  induction m with
  | zero =>
    intro heard start other turn e8 h1 h2 h3 h4 h5 h6 h7 h8 h9 hq
    refine w_iload rfl rfl ?_
    refine w_pushI rfl ?_
    refine w_icmp_geZ (b := 10000) rfl rfl (by decide) (fun h => ?_) (fun h => ?_)
    · refine w_iload rfl rfl ?_
      exact w_iret rfl (Or.inl rfl) (hq heard rfl)
    · refine w_iload rfl rfl ?_
      refine w_iload rfl rfl ?_
      refine w_icmp_geZ rfl rfl rfl (fun h => ?_) (fun h => ?_)
      · refine w_iload rfl rfl ?_
        exact w_iret rfl (Or.inl rfl) (hq heard rfl)
      · exfalso; omega
  | succ m ih =>
    intro heard start other turn e8 h1 h2 h3 h4 h5 h6 h7 h8 h9 hq
    refine w_iload rfl rfl ?_
    refine w_pushI rfl ?_
    refine w_icmp_geZ (b := 10000) rfl rfl (by decide) (fun h => ?_) (fun h => ?_)
    · refine w_iload rfl rfl ?_
      refine w_iret rfl (Or.inl rfl) (hq heard ?_)
      unfold wornZ
      rw [if_neg (by omega)]
    · refine w_iload rfl rfl ?_
      refine w_iload rfl rfl ?_
      refine w_icmp_geZ rfl rfl rfl (fun h => ?_) (fun h => ?_)
      · refine w_iload rfl rfl ?_
        refine w_iret rfl (Or.inl rfl) (hq heard ?_)
        unfold wornZ
        rw [if_neg (by omega)]
      · have a1 : (start + w).toInt = start.toInt + w.toInt := Kit.i32_add (by omega) (by omega)
        have a2 : (n - start).toInt = n.toInt - start.toInt := Kit.i32_sub (by omega) (by omega)
        have a3 : (start + w + f).toInt = start.toInt + w.toInt + f.toInt := by rw [Kit.i32_add (by rw [a1]; omega) (by rw [a1]; omega), a1]
        have a4 := min_toInt w (n - start)
        have a5 := max_toInt (start + w) other
        rw [a2] at a4
        rw [a1] at a5
        have b4 : (if n - start < w then n - start else w).toInt ≤ w.toInt := by rw [a4]; split <;> omega
        have b4' : 0 ≤ (if n - start < w then n - start else w).toInt := by rw [a4]; split <;> omega
        have b5 : start.toInt + w.toInt ≤ (if start + w < other then other else start + w).toInt := by rw [a5]; split <;> omega
        have b5' : (if start + w < other then other else start + w).toInt ≤ 20000 := by rw [a5]; split <;> omega
        have a6 : (heard + (if n - start < w then n - start else w)).toInt = heard.toInt + (if n - start < w then n - start else w).toInt := Kit.i32_add (by omega) (by omega)
        have a7 : (turn + 1).toInt = turn.toInt + 1 := Kit.i32_add (by have : (1 : Int32).toInt = 1 := rfl; omega) (by have : (1 : Int32).toInt = 1 := rfl; omega)
        refine w_iload rfl rfl ?_
        refine w_iload rfl rfl ?_
        refine w_iadd rfl ?_
        refine w_istore rfl rfl ?_
        refine w_iload rfl rfl ?_
        refine w_iload rfl rfl ?_
        refine w_iload rfl rfl ?_
        refine w_iload rfl rfl ?_
        refine w_isub rfl ?_
        refine w_mmin rfl (Nat.le_of_ble_eq_true rfl) ?_
        refine w_iadd rfl ?_
        refine w_istore rfl rfl ?_
        refine w_iload rfl rfl ?_
        refine w_iload rfl rfl ?_
        refine w_mmax rfl (Nat.le_of_ble_eq_true rfl) ?_
        refine w_istore rfl rfl ?_
        refine w_iload rfl rfl ?_
        refine w_iload rfl rfl ?_
        refine w_iadd rfl ?_
        refine w_istore rfl rfl ?_
        refine w_iinc rfl rfl rfl ?_
        refine w_goto rfl ?_
        refine ih _ _ _ _ _ (by omega) (by omega) b5' (by omega) (by omega) (by omega) (by omega) (by omega) (by omega) (fun v hv => hq v ?_)
        rw [hv, a6, a5, a3, a4]
        conv => rhs; unfold wornZ
        exact (if_pos (by omega)).symm
set_option maxHeartbeats 4000000 in
/-- the reference's loop of turns -/
theorem worn2 {X : Nat × (Nat → Int32)} {d : Nat} {I : Nat → Nat → Int32} {L : Nat → Nat → Int64} {R : Nat → Nat → Option Nat} {Q : gQ} {n : Int32} (hn : n.toInt ≤ 9999) (hw1 : 1 ≤ (I 56 7).toInt) (hw2 : (I 56 7).toInt ≤ 99) (hf1 : 1 ≤ (I 56 8).toInt) (hf2 : (I 56 8).toInt ≤ 99) (hR : R 50 7 = some 56) :
    ∀ (m : Nat) (heard start other : Int32) (e5 e6 : Option Value), n.toInt - start.toInt ≤ m → 0 ≤ start.toInt → start.toInt ≤ 20000 → 0 ≤ heard.toInt → heard.toInt ≤ start.toInt → 0 ≤ other.toInt → other.toInt ≤ 20000 →
    (∀ v : Int32, v.toInt = wornZ m n.toInt (I 56 7).toInt (I 56 8).toInt heard.toInt start.toInt other.toInt → Q (some (.int v)) (gK 87, I, L, R)) →
    gW X d 217 20 0 0 [some (.ref 50), some (.int n), some (.int heard), some (.int start), some (.int other), e5, e6] [] (gK 87, I, L, R) Q := by
  intro m
  induction m with
  | zero =>
    intro heard start other e5 e6 h1 h2 h3 h4 h5 h6 h7 hq
    refine w_iload rfl rfl ?_
    refine w_iload rfl rfl ?_
    refine w_icmp_geZ rfl rfl rfl (fun h => ?_) (fun h => ?_)
    · refine w_iload rfl rfl ?_
      exact w_iret rfl (Or.inl rfl) (hq heard rfl)
    · exfalso; omega
  | succ m ih =>
    intro heard start other e5 e6 h1 h2 h3 h4 h5 h6 h7 hq
    refine w_iload rfl rfl ?_
    refine w_iload rfl rfl ?_
    refine w_icmp_geZ rfl rfl rfl (fun h => ?_) (fun h => ?_)
    · refine w_iload rfl rfl ?_
      refine w_iret rfl (Or.inl rfl) (hq heard ?_)
      unfold wornZ
      rw [if_neg (by omega)]
    · have a1 : (start + I 56 7).toInt = start.toInt + (I 56 7).toInt := Kit.i32_add (by omega) (by omega)
      have a3 : (start + I 56 7 + I 56 8).toInt = start.toInt + (I 56 7).toInt + (I 56 8).toInt := by rw [Kit.i32_add (by rw [a1]; omega) (by rw [a1]; omega), a1]
      refine w_iload rfl rfl ?_
      refine w_aload rfl rfl ?_
      refine w_getR (r := 56) rfl rfl hR ?_
      refine w_pushI rfl ?_
      refine w_iald rfl rfl (by unfold vp_in; decide) ?_
      refine w_iadd rfl ?_
      refine w_istore rfl rfl ?_
      refine w_iload rfl rfl ?_
      refine w_iload rfl rfl ?_
      refine w_iload rfl rfl ?_
      have step : ∀ (sum2 : Int32), sum2.toInt = (if start.toInt + (I 56 7).toInt < n.toInt then (I 56 7).toInt else n.toInt - start.toInt) → gW X d 217 52 0 0 [some (.ref 50), some (.int n), some (.int heard), some (.int start), some (.int other), some (.int (start + I 56 7)), e6] [.int (heard + sum2)] (gK 87, I, L, R) Q := by
        intro sum2 hs
        have c1 : sum2.toInt ≤ (I 56 7).toInt := by rw [hs]; split <;> omega
        have c2 : 0 ≤ sum2.toInt := by rw [hs]; split <;> omega
        have c3 : (heard + sum2).toInt = heard.toInt + sum2.toInt := Kit.i32_add (by omega) (by omega)
        have fin : ∀ (nxt : Int32) , nxt.toInt = (if start.toInt + (I 56 7).toInt < other.toInt then other.toInt else start.toInt + (I 56 7).toInt) → gW X d 217 67 0 0 [some (.ref 50), some (.int n), some (.int (heard + sum2)), some (.int start), some (.int other), some (.int (start + I 56 7)), e6] [.int nxt] (gK 87, I, L, R) Q := by
          intro nxt hx
          have d1 : start.toInt + (I 56 7).toInt ≤ nxt.toInt := by rw [hx]; split <;> omega
          have d2 : nxt.toInt ≤ 20000 := by rw [hx]; split <;> omega
          refine w_istore rfl rfl ?_
          refine w_iload rfl rfl ?_
          refine w_aload rfl rfl ?_
          refine w_getR (r := 56) rfl rfl hR ?_
          refine w_pushI rfl ?_
          refine w_iald rfl rfl (by unfold vp_in; decide) ?_
          refine w_iadd rfl ?_
          refine w_istore rfl rfl ?_
          refine w_iload rfl rfl ?_
          refine w_istore rfl rfl ?_
          refine w_goto rfl ?_
          refine ih _ _ _ _ _ (by omega) (by omega) (by omega) (by omega) (by omega) (by show 0 ≤ (start + I 56 7 + I 56 8).toInt; omega) (by show (start + I 56 7 + I 56 8).toInt ≤ 20000; omega) (fun v hv => hq v ?_)
          rw [hv]
          show wornZ m n.toInt (I 56 7).toInt (I 56 8).toInt (heard + sum2).toInt nxt.toInt (start + I 56 7 + I 56 8).toInt = _
          conv => rhs; unfold wornZ
          rw [if_pos (by omega), c3, hs, hx, a3]
          congr 1
          split <;> split <;> omega
        refine w_istore rfl rfl ?_
        refine w_iload rfl rfl ?_
        refine w_iload rfl rfl ?_
        refine w_icmp_leZ rfl rfl rfl (fun h => ?_) (fun h => ?_)
        · refine w_iload rfl rfl ?_
          refine fin _ ?_
          rw [a1] at h
          by_cases he : start.toInt + (I 56 7).toInt < other.toInt
          · rw [if_pos he]
          · rw [if_neg he]
            omega
        · refine w_iload rfl rfl ?_
          refine w_goto rfl ?_
          refine fin _ ?_
          rw [a1] at h
          rw [if_neg (by omega), a1]
      refine w_icmp_geZ rfl rfl rfl (fun h => ?_) (fun h => ?_)
      · refine w_iload rfl rfl ?_
        refine w_iload rfl rfl ?_
        refine w_isub rfl ?_
        refine w_iadd rfl ?_
        have h : n.toInt ≤ (start + I 56 7).toInt := h
        rw [a1] at h
        exact step (n - start) (by rw [if_neg (by omega), Kit.i32_sub (by omega) (by omega)])
      · refine w_iload rfl rfl ?_
        refine w_goto rfl ?_
        refine w_iload rfl rfl ?_
        refine w_isub rfl ?_
        refine w_iadd rfl ?_
        have h : (start + I 56 7).toInt < n.toInt := h
        rw [a1] at h
        exact step (start + I 56 7 - start) (by rw [if_pos (by omega), Kit.i32_sub (by omega) (by omega), a1]; omega)
