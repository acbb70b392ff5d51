theorem vp_of {i : Int32} {n : Nat} (h0 : 0 ≤ i.toInt) (h1 : i.toInt < n) : vp_in i n := by
  unfold vp_in
  intro h
  rcases h with h | h
  · have h := Int32.lt_iff_toInt_lt.mp h
    have z : (0 : Int32).toInt = 0 := rfl
    omega
  · have e : i.toNatClampNeg = i.toInt.toNat := rfl
    omega
/-- the class's loop of clearing a row -/
theorem row_loop1 {X : Nat × (Nat → Int32)} {d : Nat} {I : Nat → Nat → Int32} {L0 : Nat → Nat → Int64} {R : Nat → Nat → Option Nat} {Q : gQ} {o c : Nat} {e1 : Option Value} {n2 : Int32} (hK : (gK 87)[c]? = some (13, 60)) (hR : R o 4 = some c) (hc : c < 50) (ho : (gK 87)[o]? = some (7, 0)) (hQ : ∀ L' : Nat → Nat → Int64, (∀ x, 50 ≤ x → L' x = L0 x) → Q none (gK 87, I, L', R)) :
    ∀ (m : Nat) (i : Int32) (L : Nat → Nat → Int64), 0 ≤ i.toInt → i.toInt + m = 60 → (∀ x, 50 ≤ x → L x = L0 x) → gW X d 68 17 0 0 [some (.ref o), e1, some (.int n2), some (.int i)] [] (gK 87, I, L, R) Q := by
  have z60 : (60 : Int32).toInt = 60 := rfl
  have z1 : (1 : Int32).toInt = 1 := rfl
  intro m
  induction m with
  | zero =>
    intro i L h0 h1 h2
    refine w_iload rfl rfl ?_
    refine w_pushI rfl ?_
    refine w_icmp_geZ rfl rfl z60 (fun h => ?_) (fun h => ?_)
    · exact w_vret rfl rfl (hQ L h2)
    · exfalso; omega
  | succ m ih =>
    intro i L h0 h1 h2
    have a1 : (i + 1).toInt = i.toInt + 1 := by rw [Kit.i32_add (by omega) (by omega), z1]
    refine w_iload rfl rfl ?_
    refine w_pushI rfl ?_
    refine w_icmp_geZ rfl rfl z60 (fun h => ?_) (fun h => ?_)
    · exfalso; omega
    refine w_aload rfl rfl ?_
    refine w_getR (r := c) rfl ho hR ?_
    refine w_iload rfl rfl ?_
    refine w_pushL rfl ?_
    refine w_lastv (j := i.toNatClampNeg) rfl hK rfl (vp_of h0 (by omega)) rfl ?_
    refine w_iincv (z := i + 1) (ls1 := [some (.ref o), e1, some (.int n2), some (.int (i + 1))]) rfl rfl rfl rfl ?_
    refine w_goto rfl ?_
    exact ih (i + 1) (gU L c i.toNatClampNeg 0) (by omega) (by omega) (fun x hx => (gU_o (b := x) (by omega)).trans (h2 x hx))
/-- the reference's -/
theorem row_loop2 {X : Nat × (Nat → Int32)} {d : Nat} {I : Nat → Nat → Int32} {R : Nat → Nat → Option Nat} {Q : gQ} {s : Nat} {w : Int32} {e2 : Option Value} {n3 : Int32} (hs : s ≤ 5) (hw : w.toInt = s) (hR : R 50 60 = some 85) (hQ : ∀ (v : Int32) (L' : Nat → Nat → Int64), gW X d 250 80 0 0 [some (.ref 50), some (.int w), e2, some (.int n3), some (.int v)] [] (gK 87, I, L', R) Q) :
    ∀ (m : Nat) (i : Int32) (L : Nat → Nat → Int64), 0 ≤ i.toInt → i.toInt + m = 60 * s + 60 → gW X d 250 54 0 0 [some (.ref 50), some (.int w), e2, some (.int n3), some (.int i)] [] (gK 87, I, L, R) Q := by
  have z60 : (60 : Int32).toInt = 60 := rfl
  have z1 : (1 : Int32).toInt = 1 := rfl
  have b1 : (60 * w).toInt = 60 * s := by rw [Kit.i32_mul (by rw [z60]; omega) (by rw [z60]; omega), z60, hw]
  have b2 : (60 * w + 60).toInt = 60 * s + 60 := by rw [Kit.i32_add (by omega) (by omega), b1, z60]
  intro m
  induction m with
  | zero =>
    intro i L h0 h1
    refine w_iload rfl rfl ?_
    refine w_pushI rfl ?_
    refine w_iload rfl rfl ?_
    refine w_imul rfl ?_
    refine w_pushI rfl ?_
    refine w_iadd rfl ?_
    refine w_icmp_geZ rfl rfl b2 (fun h => ?_) (fun h => ?_)
    · exact hQ i L
    · exfalso; omega
  | succ m ih =>
    intro i L h0 h1
    have a1 : (i + 1).toInt = i.toInt + 1 := by rw [Kit.i32_add (by omega) (by omega), z1]
    refine w_iload rfl rfl ?_
    refine w_pushI rfl ?_
    refine w_iload rfl rfl ?_
    refine w_imul rfl ?_
    refine w_pushI rfl ?_
    refine w_iadd rfl ?_
    refine w_icmp_geZ rfl rfl b2 (fun h => ?_) (fun h => ?_)
    · exfalso; omega
    refine w_aload rfl rfl ?_
    refine w_getR (r := 85) rfl rfl hR ?_
    refine w_iload rfl rfl ?_
    refine w_pushL rfl ?_
    refine w_lastv (n := 360) (j := i.toNatClampNeg) rfl rfl rfl (vp_of h0 (by omega)) rfl ?_
    refine w_iincv (z := i + 1) (ls1 := [some (.ref 50), some (.int w), e2, some (.int n3), some (.int (i + 1))]) rfl rfl rfl rfl ?_
    refine w_goto rfl ?_
    exact ih (i + 1) _ (by omega) (by omega)
set_option maxHeartbeats 40000000 in
set_option maxRecDepth 100000 in
theorem a1_row {X : Nat × (Nat → Int32)} {d : Nat} {I : Nat → Nat → Int32} {L : Nat → Nat → Int64} {R : Nat → Nat → Option Nat} (hI : ∀ q ∈ gFlI, I q.1 q.2.1 = q.2.2) (hL : ∀ q ∈ gFlL, L q.1 q.2.1 = q.2.2) (hR : ∀ q ∈ gFlR, R q.1 q.2.1 = some q.2.2) (a : Int32) (b : Int32) (c : Int32) : gW X (d + 12) 137 0 0 0 (gEn 137 [.ref 0, .int a, .int b, .int c]) [] (gK 87, I, L, R) (fun r σ => r = some (.int (f1_row a b c)) ∧ gFr σ I L R) := by
  show gW _ _ _ _ _ _ [some (.ref 0), some (.int a), some (.int b), some (.int c)] _ _ _
  refine w_iload rfl rfl ?_
  refine w_callSi (As := [_]) (le := [some _]) rfl rfl (Nat.le_of_ble_eq_true rfl) (Nat.le_of_ble_eq_true rfl) rfl ?_
  refine w_iload rfl rfl ?_
  refine w_if_ltZ rfl rfl (fun h1 => ?_) (fun h1 => ?_)
  · refine w_pushI rfl ?_
    refine w_iret rfl (Or.inr ⟨rfl, by decide⟩) ?_
    show gW _ _ _ _ _ _ _ _ _ _
    refine w_if_eq rfl (fun _ => ?_) (fun h => absurd (by decide) h)
    refine w_pushI rfl ?_
    refine w_iret rfl (Or.inl rfl) ?_
    exact ⟨congrArg (fun v => some (Value.int v)) (show ((-1) : Int32) = f1_row a b c by exact ite_eq_of (fun hc => absurd hc (by omega)) (fun _ => rfl)), rfl, fun x hx => rfl, fun x hx => rfl, fun x hx => rfl⟩
  · refine w_iload rfl rfl ?_
    refine w_pushI rfl ?_
    refine w_icmp_geZ (b := 6) rfl rfl (by decide) (fun h2 => ?_) (fun h2 => ?_)
    · refine w_pushI rfl ?_
      refine w_iret rfl (Or.inr ⟨rfl, by decide⟩) ?_
      show gW _ _ _ _ _ _ _ _ _ _
      refine w_if_eq rfl (fun _ => ?_) (fun h => absurd (by decide) h)
      refine w_pushI rfl ?_
      refine w_iret rfl (Or.inl rfl) ?_
      exact ⟨congrArg (fun v => some (Value.int v)) (show ((-1) : Int32) = f1_row a b c by exact ite_eq_of (fun hc => absurd hc (by omega)) (fun _ => rfl)), rfl, fun x hx => rfl, fun x hx => rfl, fun x hx => rfl⟩
    · refine w_pushI rfl ?_
      refine w_goto rfl ?_
      refine w_iret rfl (Or.inr ⟨rfl, by decide⟩) ?_
      show gW _ _ _ _ _ _ _ _ _ _
      refine w_if_eq rfl (fun h => absurd h (by decide)) (fun _ => ?_)
      refine w_iload rfl rfl ?_
      refine w_callSi (As := [_]) (le := [some _]) rfl rfl (Nat.le_of_ble_eq_true rfl) (Nat.le_of_ble_eq_true rfl) rfl ?_
      refine w_iload rfl rfl ?_
      refine w_if_ltZ rfl rfl (fun h3 => ?_) (fun h3 => ?_)
      · refine w_pushI rfl ?_
        refine w_iret rfl (Or.inr ⟨rfl, by decide⟩) ?_
        show gW _ _ _ _ _ _ _ _ _ _
        refine w_if_eq rfl (fun _ => ?_) (fun h => absurd (by decide) h)
        refine w_pushI rfl ?_
        refine w_iret rfl (Or.inl rfl) ?_
        exact ⟨congrArg (fun v => some (Value.int v)) (show ((-1) : Int32) = f1_row a b c by exact ite_eq_of (fun hc => absurd hc (by omega)) (fun _ => rfl)), rfl, fun x hx => rfl, fun x hx => rfl, fun x hx => rfl⟩
      · refine w_iload rfl rfl ?_
        refine w_pushI rfl ?_
        refine w_icmp_gtZ (b := 4) rfl rfl (by decide) (fun h4 => ?_) (fun h4 => ?_)
        · refine w_pushI rfl ?_
          refine w_iret rfl (Or.inr ⟨rfl, by decide⟩) ?_
          show gW _ _ _ _ _ _ _ _ _ _
          refine w_if_eq rfl (fun _ => ?_) (fun h => absurd (by decide) h)
          refine w_pushI rfl ?_
          refine w_iret rfl (Or.inl rfl) ?_
          exact ⟨congrArg (fun v => some (Value.int v)) (show ((-1) : Int32) = f1_row a b c by exact ite_eq_of (fun hc => absurd hc (by omega)) (fun _ => rfl)), rfl, fun x hx => rfl, fun x hx => rfl, fun x hx => rfl⟩
        · refine w_pushI rfl ?_
          refine w_goto rfl ?_
          refine w_iret rfl (Or.inr ⟨rfl, by decide⟩) ?_
          show gW _ _ _ _ _ _ _ _ _ _
          refine w_if_eq rfl (fun h => absurd h (by decide)) (fun _ => ?_)
          refine w_iload rfl rfl ?_
          refine w_pushI rfl ?_
          refine w_icmp_leZ (b := 60) rfl rfl (by decide) (fun h5 => ?_) (fun h5 => ?_)
          · refine w_iload rfl rfl ?_
            refine w_if_geZ rfl rfl (fun h6 => ?_) (fun h6 => ?_)
            · refine w_aload rfl rfl ?_
              refine w_getR (r := 37) rfl rfl (hR _ fmR_0_11) ?_
              refine w_iload rfl rfl ?_
              rcases (show a.toInt = 0 ∨ a.toInt = 1 ∨ a.toInt = 2 ∨ a.toInt = 3 ∨ a.toInt = 4 ∨ a.toInt = 5 by omega) with hs7 | hs7 | hs7 | hs7 | hs7 | hs7
              · obtain rfl : a = 0 := i_is hs7 (by decide)
                refine w_aaldv (j := 0) (r := 38) rfl rfl (by decide) (by unfold vp_in; decide) (hR _ fmR_37_0) ?_
                refine w_iload rfl rfl ?_
                refine w_iload rfl rfl ?_
                refine w_callVi (As := [_, _]) (le := [some _, some _, some _, none]) rfl rfl rfl (Nat.le_of_ble_eq_true rfl) (Nat.le_of_ble_eq_true rfl) rfl ?_
                refine w_aload rfl rfl ?_
                refine w_pushI rfl ?_
                refine w_putI rfl rfl ?_
                refine w_aload rfl rfl ?_
                refine w_iload rfl rfl ?_
                refine w_putI rfl rfl ?_
                refine w_aload rfl rfl ?_
                refine w_iload rfl rfl ?_
                refine w_putI rfl rfl ?_
                refine w_pushI rfl ?_
                refine w_istore rfl rfl ?_
                refine row_loop1 (L0 := L) (c := 39) rfl (hR _ fmR_38_4) (by decide) rfl (fun L' hL' => ?_) 60 0 _ (by decide) (by decide) (fun _ _ => rfl)
                show gW _ _ _ _ _ _ _ _ _ _
                refine w_pushI rfl ?_
                refine w_iret rfl (Or.inl rfl) ?_
                exact ⟨congrArg (fun v => some (Value.int v)) (show (1 : Int32) = f1_row (0) b c by have e0 : (0 : Int32).toInt = 0 := rfl; exact ite_eq_of (fun _ => ite_eq_of (fun hc => absurd hc (by omega)) (fun _ => rfl)) (fun hc => absurd (by omega) hc)), rfl, fun x hx => (gU_o (by omega)).trans ((gU_o (by omega)).trans (gU_o (by omega))), hL', fun x hx => rfl⟩
              · obtain rfl : a = 1 := i_is hs7 (by decide)
                refine w_aaldv (j := 1) (r := 40) rfl rfl (by decide) (by unfold vp_in; decide) (hR _ fmR_37_1) ?_
                refine w_iload rfl rfl ?_
                refine w_iload rfl rfl ?_
                refine w_callVi (As := [_, _]) (le := [some _, some _, some _, none]) rfl rfl rfl (Nat.le_of_ble_eq_true rfl) (Nat.le_of_ble_eq_true rfl) rfl ?_
                refine w_aload rfl rfl ?_
                refine w_pushI rfl ?_
                refine w_putI rfl rfl ?_
                refine w_aload rfl rfl ?_
                refine w_iload rfl rfl ?_
                refine w_putI rfl rfl ?_
                refine w_aload rfl rfl ?_
                refine w_iload rfl rfl ?_
                refine w_putI rfl rfl ?_
                refine w_pushI rfl ?_
                refine w_istore rfl rfl ?_
                refine row_loop1 (L0 := L) (c := 41) rfl (hR _ fmR_40_4) (by decide) rfl (fun L' hL' => ?_) 60 0 _ (by decide) (by decide) (fun _ _ => rfl)
                show gW _ _ _ _ _ _ _ _ _ _
                refine w_pushI rfl ?_
                refine w_iret rfl (Or.inl rfl) ?_
                exact ⟨congrArg (fun v => some (Value.int v)) (show (1 : Int32) = f1_row (1) b c by have e0 : (1 : Int32).toInt = 1 := rfl; exact ite_eq_of (fun _ => ite_eq_of (fun hc => absurd hc (by omega)) (fun _ => rfl)) (fun hc => absurd (by omega) hc)), rfl, fun x hx => (gU_o (by omega)).trans ((gU_o (by omega)).trans (gU_o (by omega))), hL', fun x hx => rfl⟩
              · obtain rfl : a = 2 := i_is hs7 (by decide)
                refine w_aaldv (j := 2) (r := 42) rfl rfl (by decide) (by unfold vp_in; decide) (hR _ fmR_37_2) ?_
                refine w_iload rfl rfl ?_
                refine w_iload rfl rfl ?_
                refine w_callVi (As := [_, _]) (le := [some _, some _, some _, none]) rfl rfl rfl (Nat.le_of_ble_eq_true rfl) (Nat.le_of_ble_eq_true rfl) rfl ?_
                refine w_aload rfl rfl ?_
                refine w_pushI rfl ?_
                refine w_putI rfl rfl ?_
                refine w_aload rfl rfl ?_
                refine w_iload rfl rfl ?_
                refine w_putI rfl rfl ?_
                refine w_aload rfl rfl ?_
                refine w_iload rfl rfl ?_
                refine w_putI rfl rfl ?_
                refine w_pushI rfl ?_
                refine w_istore rfl rfl ?_
                refine row_loop1 (L0 := L) (c := 43) rfl (hR _ fmR_42_4) (by decide) rfl (fun L' hL' => ?_) 60 0 _ (by decide) (by decide) (fun _ _ => rfl)
                show gW _ _ _ _ _ _ _ _ _ _
                refine w_pushI rfl ?_
                refine w_iret rfl (Or.inl rfl) ?_
                exact ⟨congrArg (fun v => some (Value.int v)) (show (1 : Int32) = f1_row (2) b c by have e0 : (2 : Int32).toInt = 2 := rfl; exact ite_eq_of (fun _ => ite_eq_of (fun hc => absurd hc (by omega)) (fun _ => rfl)) (fun hc => absurd (by omega) hc)), rfl, fun x hx => (gU_o (by omega)).trans ((gU_o (by omega)).trans (gU_o (by omega))), hL', fun x hx => rfl⟩
              · obtain rfl : a = 3 := i_is hs7 (by decide)
                refine w_aaldv (j := 3) (r := 44) rfl rfl (by decide) (by unfold vp_in; decide) (hR _ fmR_37_3) ?_
                refine w_iload rfl rfl ?_
                refine w_iload rfl rfl ?_
                refine w_callVi (As := [_, _]) (le := [some _, some _, some _, none]) rfl rfl rfl (Nat.le_of_ble_eq_true rfl) (Nat.le_of_ble_eq_true rfl) rfl ?_
                refine w_aload rfl rfl ?_
                refine w_pushI rfl ?_
                refine w_putI rfl rfl ?_
                refine w_aload rfl rfl ?_
                refine w_iload rfl rfl ?_
                refine w_putI rfl rfl ?_
                refine w_aload rfl rfl ?_
                refine w_iload rfl rfl ?_
                refine w_putI rfl rfl ?_
                refine w_pushI rfl ?_
                refine w_istore rfl rfl ?_
                refine row_loop1 (L0 := L) (c := 45) rfl (hR _ fmR_44_4) (by decide) rfl (fun L' hL' => ?_) 60 0 _ (by decide) (by decide) (fun _ _ => rfl)
                show gW _ _ _ _ _ _ _ _ _ _
                refine w_pushI rfl ?_
                refine w_iret rfl (Or.inl rfl) ?_
                exact ⟨congrArg (fun v => some (Value.int v)) (show (1 : Int32) = f1_row (3) b c by have e0 : (3 : Int32).toInt = 3 := rfl; exact ite_eq_of (fun _ => ite_eq_of (fun hc => absurd hc (by omega)) (fun _ => rfl)) (fun hc => absurd (by omega) hc)), rfl, fun x hx => (gU_o (by omega)).trans ((gU_o (by omega)).trans (gU_o (by omega))), hL', fun x hx => rfl⟩
              · obtain rfl : a = 4 := i_is hs7 (by decide)
                refine w_aaldv (j := 4) (r := 46) rfl rfl (by decide) (by unfold vp_in; decide) (hR _ fmR_37_4) ?_
                refine w_iload rfl rfl ?_
                refine w_iload rfl rfl ?_
                refine w_callVi (As := [_, _]) (le := [some _, some _, some _, none]) rfl rfl rfl (Nat.le_of_ble_eq_true rfl) (Nat.le_of_ble_eq_true rfl) rfl ?_
                refine w_aload rfl rfl ?_
                refine w_pushI rfl ?_
                refine w_putI rfl rfl ?_
                refine w_aload rfl rfl ?_
                refine w_iload rfl rfl ?_
                refine w_putI rfl rfl ?_
                refine w_aload rfl rfl ?_
                refine w_iload rfl rfl ?_
                refine w_putI rfl rfl ?_
                refine w_pushI rfl ?_
                refine w_istore rfl rfl ?_
                refine row_loop1 (L0 := L) (c := 47) rfl (hR _ fmR_46_4) (by decide) rfl (fun L' hL' => ?_) 60 0 _ (by decide) (by decide) (fun _ _ => rfl)
                show gW _ _ _ _ _ _ _ _ _ _
                refine w_pushI rfl ?_
                refine w_iret rfl (Or.inl rfl) ?_
                exact ⟨congrArg (fun v => some (Value.int v)) (show (1 : Int32) = f1_row (4) b c by have e0 : (4 : Int32).toInt = 4 := rfl; exact ite_eq_of (fun _ => ite_eq_of (fun hc => absurd hc (by omega)) (fun _ => rfl)) (fun hc => absurd (by omega) hc)), rfl, fun x hx => (gU_o (by omega)).trans ((gU_o (by omega)).trans (gU_o (by omega))), hL', fun x hx => rfl⟩
              · obtain rfl : a = 5 := i_is hs7 (by decide)
                refine w_aaldv (j := 5) (r := 48) rfl rfl (by decide) (by unfold vp_in; decide) (hR _ fmR_37_5) ?_
                refine w_iload rfl rfl ?_
                refine w_iload rfl rfl ?_
                refine w_callVi (As := [_, _]) (le := [some _, some _, some _, none]) rfl rfl rfl (Nat.le_of_ble_eq_true rfl) (Nat.le_of_ble_eq_true rfl) rfl ?_
                refine w_aload rfl rfl ?_
                refine w_pushI rfl ?_
                refine w_putI rfl rfl ?_
                refine w_aload rfl rfl ?_
                refine w_iload rfl rfl ?_
                refine w_putI rfl rfl ?_
                refine w_aload rfl rfl ?_
                refine w_iload rfl rfl ?_
                refine w_putI rfl rfl ?_
                refine w_pushI rfl ?_
                refine w_istore rfl rfl ?_
                refine row_loop1 (L0 := L) (c := 49) rfl (hR _ fmR_48_4) (by decide) rfl (fun L' hL' => ?_) 60 0 _ (by decide) (by decide) (fun _ _ => rfl)
                show gW _ _ _ _ _ _ _ _ _ _
                refine w_pushI rfl ?_
                refine w_iret rfl (Or.inl rfl) ?_
                exact ⟨congrArg (fun v => some (Value.int v)) (show (1 : Int32) = f1_row (5) b c by have e0 : (5 : Int32).toInt = 5 := rfl; exact ite_eq_of (fun _ => ite_eq_of (fun hc => absurd hc (by omega)) (fun _ => rfl)) (fun hc => absurd (by omega) hc)), rfl, fun x hx => (gU_o (by omega)).trans ((gU_o (by omega)).trans (gU_o (by omega))), hL', fun x hx => rfl⟩
            · refine w_pushI rfl ?_
              refine w_iret rfl (Or.inl rfl) ?_
              exact ⟨congrArg (fun v => some (Value.int v)) (show ((-14) : Int32) = f1_row a b c by exact ite_eq_of (fun _ => ite_eq_of (fun _ => rfl) (fun hc => absurd (by omega) hc)) (fun hc => absurd (by omega) hc)), rfl, fun x hx => rfl, fun x hx => rfl, fun x hx => rfl⟩
          · refine w_pushI rfl ?_
            refine w_iret rfl (Or.inl rfl) ?_
            exact ⟨congrArg (fun v => some (Value.int v)) (show ((-1) : Int32) = f1_row a b c by exact ite_eq_of (fun hc => absurd hc (by omega)) (fun _ => rfl)), rfl, fun x hx => rfl, fun x hx => rfl, fun x hx => rfl⟩

set_option maxHeartbeats 40000000 in
set_option maxRecDepth 100000 in
theorem a2_row {X : Nat × (Nat → Int32)} {d : Nat} {I : Nat → Nat → Int32} {L : Nat → Nat → Int64} {R : Nat → Nat → Option Nat} (hI : ∀ q ∈ gFlI, 50 ≤ q.1 → I q.1 q.2.1 = q.2.2) (hL : ∀ q ∈ gFlL, 50 ≤ q.1 → L q.1 q.2.1 = q.2.2) (hR : ∀ q ∈ gFlR, 50 ≤ q.1 → R q.1 q.2.1 = some q.2.2) (a : Int32) (b : Int32) (c : Int32) : gW X (d + 12) 250 0 0 0 (gEn 250 [.ref 50, .int a, .int b, .int c]) [] (gK 87, I, L, R) (fun r _ => r = some (.int (f1_row a b c))) := by
  show gW _ _ _ _ _ _ [some (.ref 50), some (.int a), some (.int b), some (.int c), none] _ _ _
  refine w_iload rfl rfl ?_
  refine w_callSi (As := [_]) (le := [some _]) rfl rfl (Nat.le_of_ble_eq_true rfl) (Nat.le_of_ble_eq_true rfl) rfl ?_
  refine w_iload rfl rfl ?_
  refine w_pushI rfl ?_
  refine w_pushI rfl ?_
  refine w_callSi (As := [_, _, _]) (le := [some _, some _, some _]) rfl rfl (Nat.le_of_ble_eq_true rfl) (Nat.le_of_ble_eq_true rfl) rfl ?_
  refine w_iload rfl rfl ?_
  refine w_iload rfl rfl ?_
  refine w_icmp_ltZ (b := 0) rfl rfl (by decide) (fun h1 => ?_) (fun h1 => ?_)
  · refine w_pushI rfl ?_
    refine w_iret rfl (Or.inr ⟨rfl, by decide⟩) ?_
    show gW _ _ _ _ _ _ _ _ _ _
    refine w_iret rfl (Or.inr ⟨rfl, by decide⟩) ?_
    show gW _ _ _ _ _ _ _ _ _ _
    refine w_if_eq rfl (fun _ => ?_) (fun h => absurd (by decide) h)
    refine w_pushI rfl ?_
    refine w_iret rfl (Or.inl rfl) ?_
    exact congrArg (fun v => some (Value.int v)) (show ((-1) : Int32) = f1_row a b c by exact ite_eq_of (fun hc => absurd hc (by omega)) (fun _ => rfl))
  · refine w_iload rfl rfl ?_
    refine w_iload rfl rfl ?_
    refine w_icmp_gtZ (b := 5) rfl rfl (by decide) (fun h2 => ?_) (fun h2 => ?_)
    · refine w_pushI rfl ?_
      refine w_iret rfl (Or.inr ⟨rfl, by decide⟩) ?_
      show gW _ _ _ _ _ _ _ _ _ _
      refine w_iret rfl (Or.inr ⟨rfl, by decide⟩) ?_
      show gW _ _ _ _ _ _ _ _ _ _
      refine w_if_eq rfl (fun _ => ?_) (fun h => absurd (by decide) h)
      refine w_pushI rfl ?_
      refine w_iret rfl (Or.inl rfl) ?_
      exact congrArg (fun v => some (Value.int v)) (show ((-1) : Int32) = f1_row a b c by exact ite_eq_of (fun hc => absurd hc (by omega)) (fun _ => rfl))
    · refine w_pushI rfl ?_
      refine w_goto rfl ?_
      refine w_iret rfl (Or.inr ⟨rfl, by decide⟩) ?_
      show gW _ _ _ _ _ _ _ _ _ _
      refine w_iret rfl (Or.inr ⟨rfl, by decide⟩) ?_
      show gW _ _ _ _ _ _ _ _ _ _
      refine w_if_eq rfl (fun h => absurd h (by decide)) (fun _ => ?_)
      refine w_iload rfl rfl ?_
      refine w_pushI rfl ?_
      refine w_pushI rfl ?_
      refine w_callSi (As := [_, _, _]) (le := [some _, some _, some _]) rfl rfl (Nat.le_of_ble_eq_true rfl) (Nat.le_of_ble_eq_true rfl) rfl ?_
      refine w_iload rfl rfl ?_
      refine w_iload rfl rfl ?_
      refine w_icmp_ltZ (b := 0) rfl rfl (by decide) (fun h3 => ?_) (fun h3 => ?_)
      · refine w_pushI rfl ?_
        refine w_iret rfl (Or.inr ⟨rfl, by decide⟩) ?_
        show gW _ _ _ _ _ _ _ _ _ _
        refine w_if_eq rfl (fun _ => ?_) (fun h => absurd (by decide) h)
        refine w_pushI rfl ?_
        refine w_iret rfl (Or.inl rfl) ?_
        exact congrArg (fun v => some (Value.int v)) (show ((-1) : Int32) = f1_row a b c by exact ite_eq_of (fun hc => absurd hc (by omega)) (fun _ => rfl))
      · refine w_iload rfl rfl ?_
        refine w_iload rfl rfl ?_
        refine w_icmp_gtZ (b := 4) rfl rfl (by decide) (fun h4 => ?_) (fun h4 => ?_)
        · refine w_pushI rfl ?_
          refine w_iret rfl (Or.inr ⟨rfl, by decide⟩) ?_
          show gW _ _ _ _ _ _ _ _ _ _
          refine w_if_eq rfl (fun _ => ?_) (fun h => absurd (by decide) h)
          refine w_pushI rfl ?_
          refine w_iret rfl (Or.inl rfl) ?_
          exact congrArg (fun v => some (Value.int v)) (show ((-1) : Int32) = f1_row a b c by exact ite_eq_of (fun hc => absurd hc (by omega)) (fun _ => rfl))
        · refine w_pushI rfl ?_
          refine w_goto rfl ?_
          refine w_iret rfl (Or.inr ⟨rfl, by decide⟩) ?_
          show gW _ _ _ _ _ _ _ _ _ _
          refine w_if_eq rfl (fun h => absurd h (by decide)) (fun _ => ?_)
          refine w_iload rfl rfl ?_
          refine w_pushI rfl ?_
          refine w_icmp_leZ (b := 60) rfl rfl (by decide) (fun h5 => ?_) (fun h5 => ?_)
          · refine w_iload rfl rfl ?_
            refine w_if_geZ rfl rfl (fun h6 => ?_) (fun h6 => ?_)
            · refine w_aload rfl rfl ?_
              refine w_getR (r := 83) rfl rfl (hR _ fmR_50_58 (by decide)) ?_
              refine w_iload rfl rfl ?_
              refine w_pushI rfl ?_
              refine w_iload rfl rfl ?_
              refine w_isub rfl ?_
              rcases (show a.toInt = 0 ∨ a.toInt = 1 ∨ a.toInt = 2 ∨ a.toInt = 3 ∨ a.toInt = 4 ∨ a.toInt = 5 by omega) with hs7 | hs7 | hs7 | hs7 | hs7 | hs7
              · obtain rfl : a = 0 := i_is hs7 (by decide)
                refine w_iastv (j := 0) rfl rfl (by decide) (by unfold vp_in; decide) rfl ?_
                refine w_aload rfl rfl ?_
                refine w_getR (r := 84) rfl rfl (hR _ fmR_50_59 (by decide)) ?_
                refine w_iload rfl rfl ?_
                refine w_topv (z := 0) (by decide) ?_
                refine w_iload rfl rfl ?_
                refine w_iastv (j := 0) rfl rfl (by decide) (by unfold vp_in; decide) rfl ?_
                refine w_pushI rfl ?_
                refine w_iload rfl rfl ?_
                refine w_topv (z := 0) (by decide) ?_
                refine w_imulv (z := 0) rfl (by decide) ?_
                refine w_istore rfl rfl ?_
                refine row_loop2 (s := 0) (w := 0) (by decide) rfl (hR _ fmR_50_60 (by decide)) (fun v L' => ?_) 60 0 _ (by decide) (by decide)
                refine w_pushI rfl ?_
                refine w_iret rfl (Or.inl rfl) ?_
                exact congrArg (fun v => some (Value.int v)) (show (1 : Int32) = f1_row (0) b c by have e0 : (0 : Int32).toInt = 0 := rfl; exact ite_eq_of (fun _ => ite_eq_of (fun hc => absurd hc (by omega)) (fun _ => rfl)) (fun hc => absurd (by omega) hc))
              · obtain rfl : a = 1 := i_is hs7 (by decide)
                refine w_iastv (j := 1) rfl rfl (by decide) (by unfold vp_in; decide) rfl ?_
                refine w_aload rfl rfl ?_
                refine w_getR (r := 84) rfl rfl (hR _ fmR_50_59 (by decide)) ?_
                refine w_iload rfl rfl ?_
                refine w_topv (z := 1) (by decide) ?_
                refine w_iload rfl rfl ?_
                refine w_iastv (j := 1) rfl rfl (by decide) (by unfold vp_in; decide) rfl ?_
                refine w_pushI rfl ?_
                refine w_iload rfl rfl ?_
                refine w_topv (z := 1) (by decide) ?_
                refine w_imulv (z := 60) rfl (by decide) ?_
                refine w_istore rfl rfl ?_
                refine row_loop2 (s := 1) (w := 1) (by decide) rfl (hR _ fmR_50_60 (by decide)) (fun v L' => ?_) 60 60 _ (by decide) (by decide)
                refine w_pushI rfl ?_
                refine w_iret rfl (Or.inl rfl) ?_
                exact congrArg (fun v => some (Value.int v)) (show (1 : Int32) = f1_row (1) b c by have e0 : (1 : Int32).toInt = 1 := rfl; exact ite_eq_of (fun _ => ite_eq_of (fun hc => absurd hc (by omega)) (fun _ => rfl)) (fun hc => absurd (by omega) hc))
              · obtain rfl : a = 2 := i_is hs7 (by decide)
                refine w_iastv (j := 2) rfl rfl (by decide) (by unfold vp_in; decide) rfl ?_
                refine w_aload rfl rfl ?_
                refine w_getR (r := 84) rfl rfl (hR _ fmR_50_59 (by decide)) ?_
                refine w_iload rfl rfl ?_
                refine w_topv (z := 2) (by decide) ?_
                refine w_iload rfl rfl ?_
                refine w_iastv (j := 2) rfl rfl (by decide) (by unfold vp_in; decide) rfl ?_
                refine w_pushI rfl ?_
                refine w_iload rfl rfl ?_
                refine w_topv (z := 2) (by decide) ?_
                refine w_imulv (z := 120) rfl (by decide) ?_
                refine w_istore rfl rfl ?_
                refine row_loop2 (s := 2) (w := 2) (by decide) rfl (hR _ fmR_50_60 (by decide)) (fun v L' => ?_) 60 120 _ (by decide) (by decide)
                refine w_pushI rfl ?_
                refine w_iret rfl (Or.inl rfl) ?_
                exact congrArg (fun v => some (Value.int v)) (show (1 : Int32) = f1_row (2) b c by have e0 : (2 : Int32).toInt = 2 := rfl; exact ite_eq_of (fun _ => ite_eq_of (fun hc => absurd hc (by omega)) (fun _ => rfl)) (fun hc => absurd (by omega) hc))
              · obtain rfl : a = 3 := i_is hs7 (by decide)
                refine w_iastv (j := 3) rfl rfl (by decide) (by unfold vp_in; decide) rfl ?_
                refine w_aload rfl rfl ?_
                refine w_getR (r := 84) rfl rfl (hR _ fmR_50_59 (by decide)) ?_
                refine w_iload rfl rfl ?_
                refine w_topv (z := 3) (by decide) ?_
                refine w_iload rfl rfl ?_
                refine w_iastv (j := 3) rfl rfl (by decide) (by unfold vp_in; decide) rfl ?_
                refine w_pushI rfl ?_
                refine w_iload rfl rfl ?_
                refine w_topv (z := 3) (by decide) ?_
                refine w_imulv (z := 180) rfl (by decide) ?_
                refine w_istore rfl rfl ?_
                refine row_loop2 (s := 3) (w := 3) (by decide) rfl (hR _ fmR_50_60 (by decide)) (fun v L' => ?_) 60 180 _ (by decide) (by decide)
                refine w_pushI rfl ?_
                refine w_iret rfl (Or.inl rfl) ?_
                exact congrArg (fun v => some (Value.int v)) (show (1 : Int32) = f1_row (3) b c by have e0 : (3 : Int32).toInt = 3 := rfl; exact ite_eq_of (fun _ => ite_eq_of (fun hc => absurd hc (by omega)) (fun _ => rfl)) (fun hc => absurd (by omega) hc))
              · obtain rfl : a = 4 := i_is hs7 (by decide)
                refine w_iastv (j := 4) rfl rfl (by decide) (by unfold vp_in; decide) rfl ?_
                refine w_aload rfl rfl ?_
                refine w_getR (r := 84) rfl rfl (hR _ fmR_50_59 (by decide)) ?_
                refine w_iload rfl rfl ?_
                refine w_topv (z := 4) (by decide) ?_
                refine w_iload rfl rfl ?_
                refine w_iastv (j := 4) rfl rfl (by decide) (by unfold vp_in; decide) rfl ?_
                refine w_pushI rfl ?_
                refine w_iload rfl rfl ?_
                refine w_topv (z := 4) (by decide) ?_
                refine w_imulv (z := 240) rfl (by decide) ?_
                refine w_istore rfl rfl ?_
                refine row_loop2 (s := 4) (w := 4) (by decide) rfl (hR _ fmR_50_60 (by decide)) (fun v L' => ?_) 60 240 _ (by decide) (by decide)
                refine w_pushI rfl ?_
                refine w_iret rfl (Or.inl rfl) ?_
                exact congrArg (fun v => some (Value.int v)) (show (1 : Int32) = f1_row (4) b c by have e0 : (4 : Int32).toInt = 4 := rfl; exact ite_eq_of (fun _ => ite_eq_of (fun hc => absurd hc (by omega)) (fun _ => rfl)) (fun hc => absurd (by omega) hc))
              · obtain rfl : a = 5 := i_is hs7 (by decide)
                refine w_iastv (j := 5) rfl rfl (by decide) (by unfold vp_in; decide) rfl ?_
                refine w_aload rfl rfl ?_
                refine w_getR (r := 84) rfl rfl (hR _ fmR_50_59 (by decide)) ?_
                refine w_iload rfl rfl ?_
                refine w_topv (z := 5) (by decide) ?_
                refine w_iload rfl rfl ?_
                refine w_iastv (j := 5) rfl rfl (by decide) (by unfold vp_in; decide) rfl ?_
                refine w_pushI rfl ?_
                refine w_iload rfl rfl ?_
                refine w_topv (z := 5) (by decide) ?_
                refine w_imulv (z := 300) rfl (by decide) ?_
                refine w_istore rfl rfl ?_
                refine row_loop2 (s := 5) (w := 5) (by decide) rfl (hR _ fmR_50_60 (by decide)) (fun v L' => ?_) 60 300 _ (by decide) (by decide)
                refine w_pushI rfl ?_
                refine w_iret rfl (Or.inl rfl) ?_
                exact congrArg (fun v => some (Value.int v)) (show (1 : Int32) = f1_row (5) b c by have e0 : (5 : Int32).toInt = 5 := rfl; exact ite_eq_of (fun _ => ite_eq_of (fun hc => absurd hc (by omega)) (fun _ => rfl)) (fun hc => absurd (by omega) hc))
            · refine w_pushI rfl ?_
              refine w_iret rfl (Or.inl rfl) ?_
              exact congrArg (fun v => some (Value.int v)) (show ((-14) : Int32) = f1_row a b c by exact ite_eq_of (fun _ => ite_eq_of (fun _ => rfl) (fun hc => absurd (by omega) hc)) (fun hc => absurd (by omega) hc))
          · refine w_pushI rfl ?_
            refine w_iret rfl (Or.inl rfl) ?_
            exact congrArg (fun v => some (Value.int v)) (show ((-1) : Int32) = f1_row a b c by exact ite_eq_of (fun hc => absurd hc (by omega)) (fun _ => rfl))

