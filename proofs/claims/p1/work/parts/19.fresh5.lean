set_option maxHeartbeats 40000000 in
set_option maxRecDepth 100000 in
theorem a1_put {X : Nat × (Nat → Int32)} {d : Nat} {I : Nat → Nat → Int32} {L : Nat → Nat → Int64} {R : Nat → Nat → Option Nat} (hI : ∀ q ∈ gFlI, I q.1 q.2.1 = q.2.2) (hL : ∀ q ∈ gFlL, L q.1 q.2.1 = q.2.2) (hR : ∀ q ∈ gFlR, R q.1 q.2.1 = some q.2.2) (a : Int32) (b : Int32) (c : Int64) : gW X (d + 12) 138 0 0 0 (gEn 138 [.ref 0, .int a, .int b, .long c]) [] (gK 87, I, L, R) (fun r σ => r = some (.int (f1_put a b c)) ∧ gFr σ I L R) := by
  show gW _ _ _ _ _ _ [some (.ref 0), some (.int a), some (.int b), some (.long c), none, none] _ _ _
  refine w_iload rfl rfl ?_
  refine w_callSi (As := [_]) (le := [some _]) rfl rfl (Nat.le_of_ble_eq_true rfl) (Nat.le_of_ble_eq_true rfl) rfl ?_
  refine w_iload rfl rfl ?_
  refine w_if_ltZ rfl rfl (fun h1 => ?_) (fun h1 => ?_)
  · refine w_pushI rfl ?_
    refine w_iret rfl (Or.inr ⟨rfl, by decide⟩) ?_
    show gW _ _ _ _ _ _ _ _ _ _
    refine w_if_ne rfl (fun h => absurd (by decide) h) (fun _ => ?_)
    refine w_pushI rfl ?_
    refine w_iret rfl (Or.inl rfl) ?_
    exact ⟨congrArg (fun v => some (Value.int v)) (show ((-1) : Int32) = f1_put a b c by exact ite_eq_of (fun hc => absurd hc (by omega)) (fun _ => rfl)), rfl, fun x hx => rfl, fun x hx => rfl, fun x hx => rfl⟩
  · refine w_iload rfl rfl ?_
    refine w_pushI rfl ?_
    refine w_icmp_geZ (b := 6) rfl rfl (by decide) (fun h2 => ?_) (fun h2 => ?_)
    · refine w_pushI rfl ?_
      refine w_iret rfl (Or.inr ⟨rfl, by decide⟩) ?_
      show gW _ _ _ _ _ _ _ _ _ _
      refine w_if_ne rfl (fun h => absurd (by decide) h) (fun _ => ?_)
      refine w_pushI rfl ?_
      refine w_iret rfl (Or.inl rfl) ?_
      exact ⟨congrArg (fun v => some (Value.int v)) (show ((-1) : Int32) = f1_put a b c by exact ite_eq_of (fun hc => absurd hc (by omega)) (fun _ => rfl)), rfl, fun x hx => rfl, fun x hx => rfl, fun x hx => rfl⟩
    · refine w_pushI rfl ?_
      refine w_goto rfl ?_
      refine w_iret rfl (Or.inr ⟨rfl, by decide⟩) ?_
      show gW _ _ _ _ _ _ _ _ _ _
      refine w_if_ne rfl (fun _ => ?_) (fun h => absurd h (by decide))
      refine w_aload rfl rfl ?_
      refine w_getR (r := 37) rfl rfl (hR _ fmR_0_11) ?_
      refine w_iload rfl rfl ?_
      rcases (show a.toInt = 0 ∨ a.toInt = 1 ∨ a.toInt = 2 ∨ a.toInt = 3 ∨ a.toInt = 4 ∨ a.toInt = 5 by omega) with hs3 | hs3 | hs3 | hs3 | hs3 | hs3
      · obtain rfl : a = 0 := i_is hs3 (by decide)
        refine w_aaldv (j := 0) (r := 38) rfl rfl (by decide) (by unfold vp_in; decide) (hR _ fmR_37_0) ?_
        refine w_iload rfl rfl ?_
        refine w_callVi (As := [_]) (le := [some _, some _]) rfl rfl rfl (Nat.le_of_ble_eq_true rfl) (Nat.le_of_ble_eq_true rfl) rfl ?_
        refine w_aload rfl rfl ?_
        refine w_getIv (x := 0) rfl rfl (hI _ fmI_38_0) ?_
        refine w_if_ne rfl (fun h => absurd (by decide) h) (fun _ => ?_)
        refine w_pushI rfl ?_
        refine w_iret rfl (Or.inl rfl) ?_
        show gW _ _ _ _ _ _ _ _ _ _
        refine w_istore rfl rfl ?_
        refine w_iload rfl rfl ?_
        refine w_if_ge rfl (fun h => absurd h (by decide)) (fun _ => ?_)
        refine w_iload rfl rfl ?_
        refine w_iret rfl (Or.inl rfl) ?_
        exact ⟨congrArg (fun v => some (Value.int v)) (show ((-11) : Int32) = f1_put (0) b c by have e0 : (0 : Int32).toInt = 0 := rfl; exact ite_eq_of (fun _ => rfl) (fun hc => absurd (by omega) hc)), rfl, fun x hx => rfl, fun x hx => rfl, fun x hx => rfl⟩
      · obtain rfl : a = 1 := i_is hs3 (by decide)
        refine w_aaldv (j := 1) (r := 40) rfl rfl (by decide) (by unfold vp_in; decide) (hR _ fmR_37_1) ?_
        refine w_iload rfl rfl ?_
        refine w_callVi (As := [_]) (le := [some _, some _]) rfl rfl rfl (Nat.le_of_ble_eq_true rfl) (Nat.le_of_ble_eq_true rfl) rfl ?_
        refine w_aload rfl rfl ?_
        refine w_getIv (x := 0) rfl rfl (hI _ fmI_40_0) ?_
        refine w_if_ne rfl (fun h => absurd (by decide) h) (fun _ => ?_)
        refine w_pushI rfl ?_
        refine w_iret rfl (Or.inl rfl) ?_
        show gW _ _ _ _ _ _ _ _ _ _
        refine w_istore rfl rfl ?_
        refine w_iload rfl rfl ?_
        refine w_if_ge rfl (fun h => absurd h (by decide)) (fun _ => ?_)
        refine w_iload rfl rfl ?_
        refine w_iret rfl (Or.inl rfl) ?_
        exact ⟨congrArg (fun v => some (Value.int v)) (show ((-11) : Int32) = f1_put (1) b c by have e0 : (1 : Int32).toInt = 1 := rfl; exact ite_eq_of (fun _ => rfl) (fun hc => absurd (by omega) hc)), rfl, fun x hx => rfl, fun x hx => rfl, fun x hx => rfl⟩
      · obtain rfl : a = 2 := i_is hs3 (by decide)
        refine w_aaldv (j := 2) (r := 42) rfl rfl (by decide) (by unfold vp_in; decide) (hR _ fmR_37_2) ?_
        refine w_iload rfl rfl ?_
        refine w_callVi (As := [_]) (le := [some _, some _]) rfl rfl rfl (Nat.le_of_ble_eq_true rfl) (Nat.le_of_ble_eq_true rfl) rfl ?_
        refine w_aload rfl rfl ?_
        refine w_getIv (x := 0) rfl rfl (hI _ fmI_42_0) ?_
        refine w_if_ne rfl (fun h => absurd (by decide) h) (fun _ => ?_)
        refine w_pushI rfl ?_
        refine w_iret rfl (Or.inl rfl) ?_
        show gW _ _ _ _ _ _ _ _ _ _
        refine w_istore rfl rfl ?_
        refine w_iload rfl rfl ?_
        refine w_if_ge rfl (fun h => absurd h (by decide)) (fun _ => ?_)
        refine w_iload rfl rfl ?_
        refine w_iret rfl (Or.inl rfl) ?_
        exact ⟨congrArg (fun v => some (Value.int v)) (show ((-11) : Int32) = f1_put (2) b c by have e0 : (2 : Int32).toInt = 2 := rfl; exact ite_eq_of (fun _ => rfl) (fun hc => absurd (by omega) hc)), rfl, fun x hx => rfl, fun x hx => rfl, fun x hx => rfl⟩
      · obtain rfl : a = 3 := i_is hs3 (by decide)
        refine w_aaldv (j := 3) (r := 44) rfl rfl (by decide) (by unfold vp_in; decide) (hR _ fmR_37_3) ?_
        refine w_iload rfl rfl ?_
        refine w_callVi (As := [_]) (le := [some _, some _]) rfl rfl rfl (Nat.le_of_ble_eq_true rfl) (Nat.le_of_ble_eq_true rfl) rfl ?_
        refine w_aload rfl rfl ?_
        refine w_getIv (x := 0) rfl rfl (hI _ fmI_44_0) ?_
        refine w_if_ne rfl (fun h => absurd (by decide) h) (fun _ => ?_)
        refine w_pushI rfl ?_
        refine w_iret rfl (Or.inl rfl) ?_
        show gW _ _ _ _ _ _ _ _ _ _
        refine w_istore rfl rfl ?_
        refine w_iload rfl rfl ?_
        refine w_if_ge rfl (fun h => absurd h (by decide)) (fun _ => ?_)
        refine w_iload rfl rfl ?_
        refine w_iret rfl (Or.inl rfl) ?_
        exact ⟨congrArg (fun v => some (Value.int v)) (show ((-11) : Int32) = f1_put (3) b c by have e0 : (3 : Int32).toInt = 3 := rfl; exact ite_eq_of (fun _ => rfl) (fun hc => absurd (by omega) hc)), rfl, fun x hx => rfl, fun x hx => rfl, fun x hx => rfl⟩
      · obtain rfl : a = 4 := i_is hs3 (by decide)
        refine w_aaldv (j := 4) (r := 46) rfl rfl (by decide) (by unfold vp_in; decide) (hR _ fmR_37_4) ?_
        refine w_iload rfl rfl ?_
        refine w_callVi (As := [_]) (le := [some _, some _]) rfl rfl rfl (Nat.le_of_ble_eq_true rfl) (Nat.le_of_ble_eq_true rfl) rfl ?_
        refine w_aload rfl rfl ?_
        refine w_getIv (x := 0) rfl rfl (hI _ fmI_46_0) ?_
        refine w_if_ne rfl (fun h => absurd (by decide) h) (fun _ => ?_)
        refine w_pushI rfl ?_
        refine w_iret rfl (Or.inl rfl) ?_
        show gW _ _ _ _ _ _ _ _ _ _
        refine w_istore rfl rfl ?_
        refine w_iload rfl rfl ?_
        refine w_if_ge rfl (fun h => absurd h (by decide)) (fun _ => ?_)
        refine w_iload rfl rfl ?_
        refine w_iret rfl (Or.inl rfl) ?_
        exact ⟨congrArg (fun v => some (Value.int v)) (show ((-11) : Int32) = f1_put (4) b c by have e0 : (4 : Int32).toInt = 4 := rfl; exact ite_eq_of (fun _ => rfl) (fun hc => absurd (by omega) hc)), rfl, fun x hx => rfl, fun x hx => rfl, fun x hx => rfl⟩
      · obtain rfl : a = 5 := i_is hs3 (by decide)
        refine w_aaldv (j := 5) (r := 48) rfl rfl (by decide) (by unfold vp_in; decide) (hR _ fmR_37_5) ?_
        refine w_iload rfl rfl ?_
        refine w_callVi (As := [_]) (le := [some _, some _]) rfl rfl rfl (Nat.le_of_ble_eq_true rfl) (Nat.le_of_ble_eq_true rfl) rfl ?_
        refine w_aload rfl rfl ?_
        refine w_getIv (x := 0) rfl rfl (hI _ fmI_48_0) ?_
        refine w_if_ne rfl (fun h => absurd (by decide) h) (fun _ => ?_)
        refine w_pushI rfl ?_
        refine w_iret rfl (Or.inl rfl) ?_
        show gW _ _ _ _ _ _ _ _ _ _
        refine w_istore rfl rfl ?_
        refine w_iload rfl rfl ?_
        refine w_if_ge rfl (fun h => absurd h (by decide)) (fun _ => ?_)
        refine w_iload rfl rfl ?_
        refine w_iret rfl (Or.inl rfl) ?_
        exact ⟨congrArg (fun v => some (Value.int v)) (show ((-11) : Int32) = f1_put (5) b c by have e0 : (5 : Int32).toInt = 5 := rfl; exact ite_eq_of (fun _ => rfl) (fun hc => absurd (by omega) hc)), rfl, fun x hx => rfl, fun x hx => rfl, fun x hx => rfl⟩
set_option maxHeartbeats 40000000 in
set_option maxRecDepth 100000 in
theorem a2_put {X : Nat × (Nat → Int32)} {d : Nat} {I : Nat → Nat → Int32} {L : Nat → Nat → Int64} {R : Nat → Nat → Option Nat} (hI : ∀ q ∈ gFlI, 50 ≤ q.1 → I q.1 q.2.1 = q.2.2) (hL : ∀ q ∈ gFlL, 50 ≤ q.1 → L q.1 q.2.1 = q.2.2) (hR : ∀ q ∈ gFlR, 50 ≤ q.1 → R q.1 q.2.1 = some q.2.2) (a : Int32) (b : Int32) (c : Int64) : gW X (d + 12) 252 0 0 0 (gEn 252 [.ref 50, .int a, .int b, .long c]) [] (gK 87, I, L, R) (fun r _ => r = some (.int (f1_put a b c))) := by
  show gW _ _ _ _ _ _ [some (.ref 50), some (.int a), some (.int b), some (.long c), none, none, none] _ _ _
  refine w_aload rfl rfl ?_
  refine w_iload rfl rfl ?_
  refine w_iload rfl rfl ?_
  refine w_callVi (As := [_, _]) (le := [some _, some _, some _]) rfl rfl rfl (Nat.le_of_ble_eq_true rfl) (Nat.le_of_ble_eq_true rfl) rfl ?_
  refine w_iload rfl rfl ?_
  refine w_callSi (As := [_]) (le := [some _]) rfl rfl (Nat.le_of_ble_eq_true rfl) (Nat.le_of_ble_eq_true rfl) rfl ?_
  refine w_iload rfl rfl ?_
  refine w_pushI rfl ?_
  refine w_pushI rfl ?_
  refine w_callSi (As := [_, _, _]) (le := [some _, some _, some _]) rfl rfl (Nat.le_of_ble_eq_true rfl) (Nat.le_of_ble_eq_true rfl) rfl ?_
  refine w_iload rfl rfl ?_
  refine w_iload rfl rfl ?_
  refine w_icmp_ltZ (b := 0) rfl rfl (by decide) (fun h1 => ?_) (fun h1 => ?_)
  · refine w_pushI rfl ?_
    refine w_iret rfl (Or.inr ⟨rfl, by decide⟩) ?_
    show gW _ _ _ _ _ _ _ _ _ _
    refine w_iret rfl (Or.inr ⟨rfl, by decide⟩) ?_
    show gW _ _ _ _ _ _ _ _ _ _
    refine w_if_ne rfl (fun h => absurd (by decide) h) (fun _ => ?_)
    refine w_pushI rfl ?_
    refine w_iret rfl (Or.inl rfl) ?_
    show gW _ _ _ _ _ _ _ _ _ _
    refine w_istore rfl rfl ?_
    refine w_iload rfl rfl ?_
    refine w_if_ge rfl (fun h => absurd h (by decide)) (fun _ => ?_)
    refine w_iload rfl rfl ?_
    refine w_iret rfl (Or.inl rfl) ?_
    exact congrArg (fun v => some (Value.int v)) (show ((-1) : Int32) = f1_put a b c by exact ite_eq_of (fun hc => absurd hc (by omega)) (fun _ => rfl))
  · refine w_iload rfl rfl ?_
    refine w_iload rfl rfl ?_
    refine w_icmp_gtZ (b := 5) rfl rfl (by decide) (fun h2 => ?_) (fun h2 => ?_)
    · refine w_pushI rfl ?_
      refine w_iret rfl (Or.inr ⟨rfl, by decide⟩) ?_
      show gW _ _ _ _ _ _ _ _ _ _
      refine w_iret rfl (Or.inr ⟨rfl, by decide⟩) ?_
      show gW _ _ _ _ _ _ _ _ _ _
      refine w_if_ne rfl (fun h => absurd (by decide) h) (fun _ => ?_)
      refine w_pushI rfl ?_
      refine w_iret rfl (Or.inl rfl) ?_
      show gW _ _ _ _ _ _ _ _ _ _
      refine w_istore rfl rfl ?_
      refine w_iload rfl rfl ?_
      refine w_if_ge rfl (fun h => absurd h (by decide)) (fun _ => ?_)
      refine w_iload rfl rfl ?_
      refine w_iret rfl (Or.inl rfl) ?_
      exact congrArg (fun v => some (Value.int v)) (show ((-1) : Int32) = f1_put a b c by exact ite_eq_of (fun hc => absurd hc (by omega)) (fun _ => rfl))
    · refine w_pushI rfl ?_
      refine w_goto rfl ?_
      refine w_iret rfl (Or.inr ⟨rfl, by decide⟩) ?_
      show gW _ _ _ _ _ _ _ _ _ _
      refine w_iret rfl (Or.inr ⟨rfl, by decide⟩) ?_
      show gW _ _ _ _ _ _ _ _ _ _
      refine w_if_ne rfl (fun _ => ?_) (fun h => absurd h (by decide))
      refine w_aload rfl rfl ?_
      refine w_getR (r := 83) rfl rfl (hR _ fmR_50_58 (by decide)) ?_
      refine w_iload rfl rfl ?_
      rcases (show a.toInt = 0 ∨ a.toInt = 1 ∨ a.toInt = 2 ∨ a.toInt = 3 ∨ a.toInt = 4 ∨ a.toInt = 5 by omega) with hs3 | hs3 | hs3 | hs3 | hs3 | hs3
      · obtain rfl : a = 0 := i_is hs3 (by decide)
        refine w_ialdv (j := 0) (x := (-1)) rfl rfl (by decide) (by unfold vp_in; decide) (hI _ fmI_83_0 (by decide)) ?_
        refine w_pushI rfl ?_
        refine w_icmp_ne rfl (fun h => absurd (by decide) h) (fun _ => ?_)
        refine w_pushI rfl ?_
        refine w_iret rfl (Or.inl rfl) ?_
        show gW _ _ _ _ _ _ _ _ _ _
        refine w_istore rfl rfl ?_
        refine w_iload rfl rfl ?_
        refine w_if_ge rfl (fun h => absurd h (by decide)) (fun _ => ?_)
        refine w_iload rfl rfl ?_
        refine w_iret rfl (Or.inl rfl) ?_
        exact congrArg (fun v => some (Value.int v)) (show ((-11) : Int32) = f1_put (0) b c by have e0 : (0 : Int32).toInt = 0 := rfl; exact ite_eq_of (fun _ => rfl) (fun hc => absurd (by omega) hc))
      · obtain rfl : a = 1 := i_is hs3 (by decide)
        refine w_ialdv (j := 1) (x := (-1)) rfl rfl (by decide) (by unfold vp_in; decide) (hI _ fmI_83_1 (by decide)) ?_
        refine w_pushI rfl ?_
        refine w_icmp_ne rfl (fun h => absurd (by decide) h) (fun _ => ?_)
        refine w_pushI rfl ?_
        refine w_iret rfl (Or.inl rfl) ?_
        show gW _ _ _ _ _ _ _ _ _ _
        refine w_istore rfl rfl ?_
        refine w_iload rfl rfl ?_
        refine w_if_ge rfl (fun h => absurd h (by decide)) (fun _ => ?_)
        refine w_iload rfl rfl ?_
        refine w_iret rfl (Or.inl rfl) ?_
        exact congrArg (fun v => some (Value.int v)) (show ((-11) : Int32) = f1_put (1) b c by have e0 : (1 : Int32).toInt = 1 := rfl; exact ite_eq_of (fun _ => rfl) (fun hc => absurd (by omega) hc))
      · obtain rfl : a = 2 := i_is hs3 (by decide)
        refine w_ialdv (j := 2) (x := (-1)) rfl rfl (by decide) (by unfold vp_in; decide) (hI _ fmI_83_2 (by decide)) ?_
        refine w_pushI rfl ?_
        refine w_icmp_ne rfl (fun h => absurd (by decide) h) (fun _ => ?_)
        refine w_pushI rfl ?_
        refine w_iret rfl (Or.inl rfl) ?_
        show gW _ _ _ _ _ _ _ _ _ _
        refine w_istore rfl rfl ?_
        refine w_iload rfl rfl ?_
        refine w_if_ge rfl (fun h => absurd h (by decide)) (fun _ => ?_)
        refine w_iload rfl rfl ?_
        refine w_iret rfl (Or.inl rfl) ?_
        exact congrArg (fun v => some (Value.int v)) (show ((-11) : Int32) = f1_put (2) b c by have e0 : (2 : Int32).toInt = 2 := rfl; exact ite_eq_of (fun _ => rfl) (fun hc => absurd (by omega) hc))
      · obtain rfl : a = 3 := i_is hs3 (by decide)
        refine w_ialdv (j := 3) (x := (-1)) rfl rfl (by decide) (by unfold vp_in; decide) (hI _ fmI_83_3 (by decide)) ?_
        refine w_pushI rfl ?_
        refine w_icmp_ne rfl (fun h => absurd (by decide) h) (fun _ => ?_)
        refine w_pushI rfl ?_
        refine w_iret rfl (Or.inl rfl) ?_
        show gW _ _ _ _ _ _ _ _ _ _
        refine w_istore rfl rfl ?_
        refine w_iload rfl rfl ?_
        refine w_if_ge rfl (fun h => absurd h (by decide)) (fun _ => ?_)
        refine w_iload rfl rfl ?_
        refine w_iret rfl (Or.inl rfl) ?_
        exact congrArg (fun v => some (Value.int v)) (show ((-11) : Int32) = f1_put (3) b c by have e0 : (3 : Int32).toInt = 3 := rfl; exact ite_eq_of (fun _ => rfl) (fun hc => absurd (by omega) hc))
      · obtain rfl : a = 4 := i_is hs3 (by decide)
        refine w_ialdv (j := 4) (x := (-1)) rfl rfl (by decide) (by unfold vp_in; decide) (hI _ fmI_83_4 (by decide)) ?_
        refine w_pushI rfl ?_
        refine w_icmp_ne rfl (fun h => absurd (by decide) h) (fun _ => ?_)
        refine w_pushI rfl ?_
        refine w_iret rfl (Or.inl rfl) ?_
        show gW _ _ _ _ _ _ _ _ _ _
        refine w_istore rfl rfl ?_
        refine w_iload rfl rfl ?_
        refine w_if_ge rfl (fun h => absurd h (by decide)) (fun _ => ?_)
        refine w_iload rfl rfl ?_
        refine w_iret rfl (Or.inl rfl) ?_
        exact congrArg (fun v => some (Value.int v)) (show ((-11) : Int32) = f1_put (4) b c by have e0 : (4 : Int32).toInt = 4 := rfl; exact ite_eq_of (fun _ => rfl) (fun hc => absurd (by omega) hc))
      · obtain rfl : a = 5 := i_is hs3 (by decide)
        refine w_ialdv (j := 5) (x := (-1)) rfl rfl (by decide) (by unfold vp_in; decide) (hI _ fmI_83_5 (by decide)) ?_
        refine w_pushI rfl ?_
        refine w_icmp_ne rfl (fun h => absurd (by decide) h) (fun _ => ?_)
        refine w_pushI rfl ?_
        refine w_iret rfl (Or.inl rfl) ?_
        show gW _ _ _ _ _ _ _ _ _ _
        refine w_istore rfl rfl ?_
        refine w_iload rfl rfl ?_
        refine w_if_ge rfl (fun h => absurd h (by decide)) (fun _ => ?_)
        refine w_iload rfl rfl ?_
        refine w_iret rfl (Or.inl rfl) ?_
        exact congrArg (fun v => some (Value.int v)) (show ((-11) : Int32) = f1_put (5) b c by have e0 : (5 : Int32).toInt = 5 := rfl; exact ite_eq_of (fun _ => rfl) (fun hc => absurd (by omega) hc))
set_option maxHeartbeats 40000000 in
set_option maxRecDepth 100000 in
theorem a1_element {X : Nat × (Nat → Int32)} {d : Nat} {I : Nat → Nat → Int32} {L : Nat → Nat → Int64} {R : Nat → Nat → Option Nat} (hI : ∀ q ∈ gFlI, I q.1 q.2.1 = q.2.2) (hL : ∀ q ∈ gFlL, L q.1 q.2.1 = q.2.2) (hR : ∀ q ∈ gFlR, R q.1 q.2.1 = some q.2.2) (a : Int32) (b : Int32) : gW X (d + 12) 139 0 0 0 (gEn 139 [.ref 0, .int a, .int b]) [] (gK 87, I, L, R) (fun r σ => r = some (.long (f1_element a b)) ∧ gFr σ I L R) := by
  show gW _ _ _ _ _ _ [some (.ref 0), some (.int a), some (.int b)] _ _ _
  refine w_iload rfl rfl ?_
  refine w_callSi (As := [_]) (le := [some _]) rfl rfl (Nat.le_of_ble_eq_true rfl) (Nat.le_of_ble_eq_true rfl) rfl ?_
  refine w_iload rfl rfl ?_
  refine w_if_ltZ rfl rfl (fun h1 => ?_) (fun h1 => ?_)
  · refine w_pushI rfl ?_
    refine w_iret rfl (Or.inr ⟨rfl, by decide⟩) ?_
    show gW _ _ _ _ _ _ _ _ _ _
    refine w_if_eq rfl (fun _ => ?_) (fun h => absurd (by decide) h)
    refine w_pushL rfl ?_
    refine w_lret rfl rfl ?_
    exact ⟨congrArg (fun v => some (Value.long v)) (show ((-9223372036854775808) : Int64) = f1_element a b by exact rfl), rfl, fun x hx => rfl, fun x hx => rfl, fun x hx => rfl⟩
  · refine w_iload rfl rfl ?_
    refine w_pushI rfl ?_
    refine w_icmp_geZ (b := 6) rfl rfl (by decide) (fun h2 => ?_) (fun h2 => ?_)
    · refine w_pushI rfl ?_
      refine w_iret rfl (Or.inr ⟨rfl, by decide⟩) ?_
      show gW _ _ _ _ _ _ _ _ _ _
      refine w_if_eq rfl (fun _ => ?_) (fun h => absurd (by decide) h)
      refine w_pushL rfl ?_
      refine w_lret rfl rfl ?_
      exact ⟨congrArg (fun v => some (Value.long v)) (show ((-9223372036854775808) : Int64) = f1_element a b by exact rfl), rfl, fun x hx => rfl, fun x hx => rfl, fun x hx => rfl⟩
    · refine w_pushI rfl ?_
      refine w_goto rfl ?_
      refine w_iret rfl (Or.inr ⟨rfl, by decide⟩) ?_
      show gW _ _ _ _ _ _ _ _ _ _
      refine w_if_eq rfl (fun h => absurd h (by decide)) (fun _ => ?_)
      refine w_aload rfl rfl ?_
      refine w_getR (r := 37) rfl rfl (hR _ fmR_0_11) ?_
      refine w_iload rfl rfl ?_
      rcases (show a.toInt = 0 ∨ a.toInt = 1 ∨ a.toInt = 2 ∨ a.toInt = 3 ∨ a.toInt = 4 ∨ a.toInt = 5 by omega) with hs3 | hs3 | hs3 | hs3 | hs3 | hs3
      · obtain rfl : a = 0 := i_is hs3 (by decide)
        refine w_aaldv (j := 0) (r := 38) rfl rfl (by decide) (by unfold vp_in; decide) (hR _ fmR_37_0) ?_
        refine w_iload rfl rfl ?_
        refine w_callVi (As := [_]) (le := [some _, some _]) rfl rfl rfl (Nat.le_of_ble_eq_true rfl) (Nat.le_of_ble_eq_true rfl) rfl ?_
        refine w_aload rfl rfl ?_
        refine w_getIv (x := 0) rfl rfl (hI _ fmI_38_0) ?_
        refine w_if_ne rfl (fun h => absurd (by decide) h) (fun _ => ?_)
        refine w_pushI rfl ?_
        refine w_iret rfl (Or.inl rfl) ?_
        show gW _ _ _ _ _ _ _ _ _ _
        refine w_if_ge rfl (fun h => absurd h (by decide)) (fun _ => ?_)
        refine w_pushL rfl ?_
        refine w_lret rfl rfl ?_
        exact ⟨congrArg (fun v => some (Value.long v)) (show ((-9223372036854775808) : Int64) = f1_element (0) b by have e0 : (0 : Int32).toInt = 0 := rfl; exact rfl), rfl, fun x hx => rfl, fun x hx => rfl, fun x hx => rfl⟩
      · obtain rfl : a = 1 := i_is hs3 (by decide)
        refine w_aaldv (j := 1) (r := 40) rfl rfl (by decide) (by unfold vp_in; decide) (hR _ fmR_37_1) ?_
        refine w_iload rfl rfl ?_
        refine w_callVi (As := [_]) (le := [some _, some _]) rfl rfl rfl (Nat.le_of_ble_eq_true rfl) (Nat.le_of_ble_eq_true rfl) rfl ?_
        refine w_aload rfl rfl ?_
        refine w_getIv (x := 0) rfl rfl (hI _ fmI_40_0) ?_
        refine w_if_ne rfl (fun h => absurd (by decide) h) (fun _ => ?_)
        refine w_pushI rfl ?_
        refine w_iret rfl (Or.inl rfl) ?_
        show gW _ _ _ _ _ _ _ _ _ _
        refine w_if_ge rfl (fun h => absurd h (by decide)) (fun _ => ?_)
        refine w_pushL rfl ?_
        refine w_lret rfl rfl ?_
        exact ⟨congrArg (fun v => some (Value.long v)) (show ((-9223372036854775808) : Int64) = f1_element (1) b by have e0 : (1 : Int32).toInt = 1 := rfl; exact rfl), rfl, fun x hx => rfl, fun x hx => rfl, fun x hx => rfl⟩
      · obtain rfl : a = 2 := i_is hs3 (by decide)
        refine w_aaldv (j := 2) (r := 42) rfl rfl (by decide) (by unfold vp_in; decide) (hR _ fmR_37_2) ?_
        refine w_iload rfl rfl ?_
        refine w_callVi (As := [_]) (le := [some _, some _]) rfl rfl rfl (Nat.le_of_ble_eq_true rfl) (Nat.le_of_ble_eq_true rfl) rfl ?_
        refine w_aload rfl rfl ?_
        refine w_getIv (x := 0) rfl rfl (hI _ fmI_42_0) ?_
        refine w_if_ne rfl (fun h => absurd (by decide) h) (fun _ => ?_)
        refine w_pushI rfl ?_
        refine w_iret rfl (Or.inl rfl) ?_
        show gW _ _ _ _ _ _ _ _ _ _
        refine w_if_ge rfl (fun h => absurd h (by decide)) (fun _ => ?_)
        refine w_pushL rfl ?_
        refine w_lret rfl rfl ?_
        exact ⟨congrArg (fun v => some (Value.long v)) (show ((-9223372036854775808) : Int64) = f1_element (2) b by have e0 : (2 : Int32).toInt = 2 := rfl; exact rfl), rfl, fun x hx => rfl, fun x hx => rfl, fun x hx => rfl⟩
      · obtain rfl : a = 3 := i_is hs3 (by decide)
        refine w_aaldv (j := 3) (r := 44) rfl rfl (by decide) (by unfold vp_in; decide) (hR _ fmR_37_3) ?_
        refine w_iload rfl rfl ?_
        refine w_callVi (As := [_]) (le := [some _, some _]) rfl rfl rfl (Nat.le_of_ble_eq_true rfl) (Nat.le_of_ble_eq_true rfl) rfl ?_
        refine w_aload rfl rfl ?_
        refine w_getIv (x := 0) rfl rfl (hI _ fmI_44_0) ?_
        refine w_if_ne rfl (fun h => absurd (by decide) h) (fun _ => ?_)
        refine w_pushI rfl ?_
        refine w_iret rfl (Or.inl rfl) ?_
        show gW _ _ _ _ _ _ _ _ _ _
        refine w_if_ge rfl (fun h => absurd h (by decide)) (fun _ => ?_)
        refine w_pushL rfl ?_
        refine w_lret rfl rfl ?_
        exact ⟨congrArg (fun v => some (Value.long v)) (show ((-9223372036854775808) : Int64) = f1_element (3) b by have e0 : (3 : Int32).toInt = 3 := rfl; exact rfl), rfl, fun x hx => rfl, fun x hx => rfl, fun x hx => rfl⟩
      · obtain rfl : a = 4 := i_is hs3 (by decide)
        refine w_aaldv (j := 4) (r := 46) rfl rfl (by decide) (by unfold vp_in; decide) (hR _ fmR_37_4) ?_
        refine w_iload rfl rfl ?_
        refine w_callVi (As := [_]) (le := [some _, some _]) rfl rfl rfl (Nat.le_of_ble_eq_true rfl) (Nat.le_of_ble_eq_true rfl) rfl ?_
        refine w_aload rfl rfl ?_
        refine w_getIv (x := 0) rfl rfl (hI _ fmI_46_0) ?_
        refine w_if_ne rfl (fun h => absurd (by decide) h) (fun _ => ?_)
        refine w_pushI rfl ?_
        refine w_iret rfl (Or.inl rfl) ?_
        show gW _ _ _ _ _ _ _ _ _ _
        refine w_if_ge rfl (fun h => absurd h (by decide)) (fun _ => ?_)
        refine w_pushL rfl ?_
        refine w_lret rfl rfl ?_
        exact ⟨congrArg (fun v => some (Value.long v)) (show ((-9223372036854775808) : Int64) = f1_element (4) b by have e0 : (4 : Int32).toInt = 4 := rfl; exact rfl), rfl, fun x hx => rfl, fun x hx => rfl, fun x hx => rfl⟩
      · obtain rfl : a = 5 := i_is hs3 (by decide)
        refine w_aaldv (j := 5) (r := 48) rfl rfl (by decide) (by unfold vp_in; decide) (hR _ fmR_37_5) ?_
        refine w_iload rfl rfl ?_
        refine w_callVi (As := [_]) (le := [some _, some _]) rfl rfl rfl (Nat.le_of_ble_eq_true rfl) (Nat.le_of_ble_eq_true rfl) rfl ?_
        refine w_aload rfl rfl ?_
        refine w_getIv (x := 0) rfl rfl (hI _ fmI_48_0) ?_
        refine w_if_ne rfl (fun h => absurd (by decide) h) (fun _ => ?_)
        refine w_pushI rfl ?_
        refine w_iret rfl (Or.inl rfl) ?_
        show gW _ _ _ _ _ _ _ _ _ _
        refine w_if_ge rfl (fun h => absurd h (by decide)) (fun _ => ?_)
        refine w_pushL rfl ?_
        refine w_lret rfl rfl ?_
        exact ⟨congrArg (fun v => some (Value.long v)) (show ((-9223372036854775808) : Int64) = f1_element (5) b by have e0 : (5 : Int32).toInt = 5 := rfl; exact rfl), rfl, fun x hx => rfl, fun x hx => rfl, fun x hx => rfl⟩
set_option maxHeartbeats 40000000 in
set_option maxRecDepth 100000 in
theorem a2_element {X : Nat × (Nat → Int32)} {d : Nat} {I : Nat → Nat → Int32} {L : Nat → Nat → Int64} {R : Nat → Nat → Option Nat} (hI : ∀ q ∈ gFlI, 50 ≤ q.1 → I q.1 q.2.1 = q.2.2) (hL : ∀ q ∈ gFlL, 50 ≤ q.1 → L q.1 q.2.1 = q.2.2) (hR : ∀ q ∈ gFlR, 50 ≤ q.1 → R q.1 q.2.1 = some q.2.2) (a : Int32) (b : Int32) : gW X (d + 12) 253 0 0 0 (gEn 253 [.ref 50, .int a, .int b]) [] (gK 87, I, L, R) (fun r _ => r = some (.long (f1_element a b))) := by
  show gW _ _ _ _ _ _ [some (.ref 50), some (.int a), some (.int b)] _ _ _
  refine w_aload rfl rfl ?_
  refine w_iload rfl rfl ?_
  refine w_iload rfl rfl ?_
  refine w_callVi (As := [_, _]) (le := [some _, some _, some _]) rfl rfl rfl (Nat.le_of_ble_eq_true rfl) (Nat.le_of_ble_eq_true rfl) rfl ?_
  refine w_iload rfl rfl ?_
  refine w_callSi (As := [_]) (le := [some _]) rfl rfl (Nat.le_of_ble_eq_true rfl) (Nat.le_of_ble_eq_true rfl) rfl ?_
  refine w_iload rfl rfl ?_
  refine w_pushI rfl ?_
  refine w_pushI rfl ?_
  refine w_callSi (As := [_, _, _]) (le := [some _, some _, some _]) rfl rfl (Nat.le_of_ble_eq_true rfl) (Nat.le_of_ble_eq_true rfl) rfl ?_
  refine w_iload rfl rfl ?_
  refine w_iload rfl rfl ?_
  refine w_icmp_ltZ (b := 0) rfl rfl (by decide) (fun h1 => ?_) (fun h1 => ?_)
  · refine w_pushI rfl ?_
    refine w_iret rfl (Or.inr ⟨rfl, by decide⟩) ?_
    show gW _ _ _ _ _ _ _ _ _ _
    refine w_iret rfl (Or.inr ⟨rfl, by decide⟩) ?_
    show gW _ _ _ _ _ _ _ _ _ _
    refine w_if_ne rfl (fun h => absurd (by decide) h) (fun _ => ?_)
    refine w_pushI rfl ?_
    refine w_iret rfl (Or.inl rfl) ?_
    show gW _ _ _ _ _ _ _ _ _ _
    refine w_if_ge rfl (fun h => absurd h (by decide)) (fun _ => ?_)
    refine w_pushL rfl ?_
    refine w_goto rfl ?_
    refine w_lret rfl rfl ?_
    exact congrArg (fun v => some (Value.long v)) (show ((-9223372036854775808) : Int64) = f1_element a b by exact rfl)
  · refine w_iload rfl rfl ?_
    refine w_iload rfl rfl ?_
    refine w_icmp_gtZ (b := 5) rfl rfl (by decide) (fun h2 => ?_) (fun h2 => ?_)
    · refine w_pushI rfl ?_
      refine w_iret rfl (Or.inr ⟨rfl, by decide⟩) ?_
      show gW _ _ _ _ _ _ _ _ _ _
      refine w_iret rfl (Or.inr ⟨rfl, by decide⟩) ?_
      show gW _ _ _ _ _ _ _ _ _ _
      refine w_if_ne rfl (fun h => absurd (by decide) h) (fun _ => ?_)
      refine w_pushI rfl ?_
      refine w_iret rfl (Or.inl rfl) ?_
      show gW _ _ _ _ _ _ _ _ _ _
      refine w_if_ge rfl (fun h => absurd h (by decide)) (fun _ => ?_)
      refine w_pushL rfl ?_
      refine w_goto rfl ?_
      refine w_lret rfl rfl ?_
      exact congrArg (fun v => some (Value.long v)) (show ((-9223372036854775808) : Int64) = f1_element a b by exact rfl)
    · refine w_pushI rfl ?_
      refine w_goto rfl ?_
      refine w_iret rfl (Or.inr ⟨rfl, by decide⟩) ?_
      show gW _ _ _ _ _ _ _ _ _ _
      refine w_iret rfl (Or.inr ⟨rfl, by decide⟩) ?_
      show gW _ _ _ _ _ _ _ _ _ _
      refine w_if_ne rfl (fun _ => ?_) (fun h => absurd h (by decide))
      refine w_aload rfl rfl ?_
      refine w_getR (r := 83) rfl rfl (hR _ fmR_50_58 (by decide)) ?_
      refine w_iload rfl rfl ?_
      rcases (show a.toInt = 0 ∨ a.toInt = 1 ∨ a.toInt = 2 ∨ a.toInt = 3 ∨ a.toInt = 4 ∨ a.toInt = 5 by omega) with hs3 | hs3 | hs3 | hs3 | hs3 | hs3
      · obtain rfl : a = 0 := i_is hs3 (by decide)
        refine w_ialdv (j := 0) (x := (-1)) rfl rfl (by decide) (by unfold vp_in; decide) (hI _ fmI_83_0 (by decide)) ?_
        refine w_pushI rfl ?_
        refine w_icmp_ne rfl (fun h => absurd (by decide) h) (fun _ => ?_)
        refine w_pushI rfl ?_
        refine w_iret rfl (Or.inl rfl) ?_
        show gW _ _ _ _ _ _ _ _ _ _
        refine w_if_ge rfl (fun h => absurd h (by decide)) (fun _ => ?_)
        refine w_pushL rfl ?_
        refine w_goto rfl ?_
        refine w_lret rfl rfl ?_
        exact congrArg (fun v => some (Value.long v)) (show ((-9223372036854775808) : Int64) = f1_element (0) b by have e0 : (0 : Int32).toInt = 0 := rfl; exact rfl)
      · obtain rfl : a = 1 := i_is hs3 (by decide)
        refine w_ialdv (j := 1) (x := (-1)) rfl rfl (by decide) (by unfold vp_in; decide) (hI _ fmI_83_1 (by decide)) ?_
        refine w_pushI rfl ?_
        refine w_icmp_ne rfl (fun h => absurd (by decide) h) (fun _ => ?_)
        refine w_pushI rfl ?_
        refine w_iret rfl (Or.inl rfl) ?_
        show gW _ _ _ _ _ _ _ _ _ _
        refine w_if_ge rfl (fun h => absurd h (by decide)) (fun _ => ?_)
        refine w_pushL rfl ?_
        refine w_goto rfl ?_
        refine w_lret rfl rfl ?_
        exact congrArg (fun v => some (Value.long v)) (show ((-9223372036854775808) : Int64) = f1_element (1) b by have e0 : (1 : Int32).toInt = 1 := rfl; exact rfl)
      · obtain rfl : a = 2 := i_is hs3 (by decide)
        refine w_ialdv (j := 2) (x := (-1)) rfl rfl (by decide) (by unfold vp_in; decide) (hI _ fmI_83_2 (by decide)) ?_
        refine w_pushI rfl ?_
        refine w_icmp_ne rfl (fun h => absurd (by decide) h) (fun _ => ?_)
        refine w_pushI rfl ?_
        refine w_iret rfl (Or.inl rfl) ?_
        show gW _ _ _ _ _ _ _ _ _ _
        refine w_if_ge rfl (fun h => absurd h (by decide)) (fun _ => ?_)
        refine w_pushL rfl ?_
        refine w_goto rfl ?_
        refine w_lret rfl rfl ?_
        exact congrArg (fun v => some (Value.long v)) (show ((-9223372036854775808) : Int64) = f1_element (2) b by have e0 : (2 : Int32).toInt = 2 := rfl; exact rfl)
      · obtain rfl : a = 3 := i_is hs3 (by decide)
        refine w_ialdv (j := 3) (x := (-1)) rfl rfl (by decide) (by unfold vp_in; decide) (hI _ fmI_83_3 (by decide)) ?_
        refine w_pushI rfl ?_
        refine w_icmp_ne rfl (fun h => absurd (by decide) h) (fun _ => ?_)
        refine w_pushI rfl ?_
        refine w_iret rfl (Or.inl rfl) ?_
        show gW _ _ _ _ _ _ _ _ _ _
        refine w_if_ge rfl (fun h => absurd h (by decide)) (fun _ => ?_)
        refine w_pushL rfl ?_
        refine w_goto rfl ?_
        refine w_lret rfl rfl ?_
        exact congrArg (fun v => some (Value.long v)) (show ((-9223372036854775808) : Int64) = f1_element (3) b by have e0 : (3 : Int32).toInt = 3 := rfl; exact rfl)
      · obtain rfl : a = 4 := i_is hs3 (by decide)
        refine w_ialdv (j := 4) (x := (-1)) rfl rfl (by decide) (by unfold vp_in; decide) (hI _ fmI_83_4 (by decide)) ?_
        refine w_pushI rfl ?_
        refine w_icmp_ne rfl (fun h => absurd (by decide) h) (fun _ => ?_)
        refine w_pushI rfl ?_
        refine w_iret rfl (Or.inl rfl) ?_
        show gW _ _ _ _ _ _ _ _ _ _
        refine w_if_ge rfl (fun h => absurd h (by decide)) (fun _ => ?_)
        refine w_pushL rfl ?_
        refine w_goto rfl ?_
        refine w_lret rfl rfl ?_
        exact congrArg (fun v => some (Value.long v)) (show ((-9223372036854775808) : Int64) = f1_element (4) b by have e0 : (4 : Int32).toInt = 4 := rfl; exact rfl)
      · obtain rfl : a = 5 := i_is hs3 (by decide)
        refine w_ialdv (j := 5) (x := (-1)) rfl rfl (by decide) (by unfold vp_in; decide) (hI _ fmI_83_5 (by decide)) ?_
        refine w_pushI rfl ?_
        refine w_icmp_ne rfl (fun h => absurd (by decide) h) (fun _ => ?_)
        refine w_pushI rfl ?_
        refine w_iret rfl (Or.inl rfl) ?_
        show gW _ _ _ _ _ _ _ _ _ _
        refine w_if_ge rfl (fun h => absurd h (by decide)) (fun _ => ?_)
        refine w_pushL rfl ?_
        refine w_goto rfl ?_
        refine w_lret rfl rfl ?_
        exact congrArg (fun v => some (Value.long v)) (show ((-9223372036854775808) : Int64) = f1_element (5) b by have e0 : (5 : Int32).toInt = 5 := rfl; exact rfl)
set_option maxHeartbeats 40000000 in
set_option maxRecDepth 100000 in
theorem a1_shift {X : Nat × (Nat → Int32)} {d : Nat} {I : Nat → Nat → Int32} {L : Nat → Nat → Int64} {R : Nat → Nat → Option Nat} (hI : ∀ q ∈ gFlI, I q.1 q.2.1 = q.2.2) (hL : ∀ q ∈ gFlL, L q.1 q.2.1 = q.2.2) (hR : ∀ q ∈ gFlR, R q.1 q.2.1 = some q.2.2) (a : Int32) (b : Int32) (c : Int32) (g : Int32) (e : Int32) : gW X (d + 12) 140 0 0 0 (gEn 140 [.ref 0, .int a, .int b, .int c, .int g, .int e]) [] (gK 87, I, L, R) (fun r σ => r = some (.int (f1_shift a b c g e)) ∧ gFr σ I L R) := by
  show gW _ _ _ _ _ _ [some (.ref 0), some (.int a), some (.int b), some (.int c), some (.int g), some (.int e), none, none] _ _ _
  refine w_iload rfl rfl ?_
  refine w_callSi (As := [_]) (le := [some _]) rfl rfl (Nat.le_of_ble_eq_true rfl) (Nat.le_of_ble_eq_true rfl) rfl ?_
  refine w_iload rfl rfl ?_
  refine w_if_ltZ rfl rfl (fun h1 => ?_) (fun h1 => ?_)
  · refine w_pushI rfl ?_
    refine w_iret rfl (Or.inr ⟨rfl, by decide⟩) ?_
    show gW _ _ _ _ _ _ _ _ _ _
    refine w_if_eq rfl (fun _ => ?_) (fun h => absurd (by decide) h)
    refine w_pushI rfl ?_
    refine w_iret rfl (Or.inl rfl) ?_
    exact ⟨congrArg (fun v => some (Value.int v)) (show ((-1) : Int32) = f1_shift a b c g e by exact ite_eq_of (fun hc => absurd hc (by omega)) (fun _ => rfl)), rfl, fun x hx => rfl, fun x hx => rfl, fun x hx => rfl⟩
  · refine w_iload rfl rfl ?_
    refine w_pushI rfl ?_
    refine w_icmp_geZ (b := 6) rfl rfl (by decide) (fun h2 => ?_) (fun h2 => ?_)
    · refine w_pushI rfl ?_
      refine w_iret rfl (Or.inr ⟨rfl, by decide⟩) ?_
      show gW _ _ _ _ _ _ _ _ _ _
      refine w_if_eq rfl (fun _ => ?_) (fun h => absurd (by decide) h)
      refine w_pushI rfl ?_
      refine w_iret rfl (Or.inl rfl) ?_
      exact ⟨congrArg (fun v => some (Value.int v)) (show ((-1) : Int32) = f1_shift a b c g e by exact ite_eq_of (fun hc => absurd hc (by omega)) (fun _ => rfl)), rfl, fun x hx => rfl, fun x hx => rfl, fun x hx => rfl⟩
    · refine w_pushI rfl ?_
      refine w_goto rfl ?_
      refine w_iret rfl (Or.inr ⟨rfl, by decide⟩) ?_
      show gW _ _ _ _ _ _ _ _ _ _
      refine w_if_eq rfl (fun h => absurd h (by decide)) (fun _ => ?_)
      refine w_iload rfl rfl ?_
      refine w_callSi (As := [_]) (le := [some _]) rfl rfl (Nat.le_of_ble_eq_true rfl) (Nat.le_of_ble_eq_true rfl) rfl ?_
      refine w_iload rfl rfl ?_
      refine w_if_ltZ rfl rfl (fun h3 => ?_) (fun h3 => ?_)
      · refine w_pushI rfl ?_
        refine w_iret rfl (Or.inr ⟨rfl, by decide⟩) ?_
        show gW _ _ _ _ _ _ _ _ _ _
        refine w_if_ne rfl (fun h => absurd (by decide) h) (fun _ => ?_)
        refine w_pushI rfl ?_
        refine w_iret rfl (Or.inl rfl) ?_
        exact ⟨congrArg (fun v => some (Value.int v)) (show ((-1) : Int32) = f1_shift a b c g e by exact ite_eq_of (fun hc => absurd hc (by omega)) (fun _ => rfl)), rfl, fun x hx => rfl, fun x hx => rfl, fun x hx => rfl⟩
      · refine w_iload rfl rfl ?_
        refine w_pushI rfl ?_
        refine w_icmp_geZ (b := 6) rfl rfl (by decide) (fun h4 => ?_) (fun h4 => ?_)
        · refine w_pushI rfl ?_
          refine w_iret rfl (Or.inr ⟨rfl, by decide⟩) ?_
          show gW _ _ _ _ _ _ _ _ _ _
          refine w_if_ne rfl (fun h => absurd (by decide) h) (fun _ => ?_)
          refine w_pushI rfl ?_
          refine w_iret rfl (Or.inl rfl) ?_
          exact ⟨congrArg (fun v => some (Value.int v)) (show ((-1) : Int32) = f1_shift a b c g e by exact ite_eq_of (fun hc => absurd hc (by omega)) (fun _ => rfl)), rfl, fun x hx => rfl, fun x hx => rfl, fun x hx => rfl⟩
        · refine w_pushI rfl ?_
          refine w_goto rfl ?_
          refine w_iret rfl (Or.inr ⟨rfl, by decide⟩) ?_
          show gW _ _ _ _ _ _ _ _ _ _
          refine w_if_ne rfl (fun _ => ?_) (fun h => absurd h (by decide))
          refine w_aload rfl rfl ?_
          refine w_getR (r := 37) rfl rfl (hR _ fmR_0_11) ?_
          refine w_iload rfl rfl ?_
          rcases (show a.toInt = 0 ∨ a.toInt = 1 ∨ a.toInt = 2 ∨ a.toInt = 3 ∨ a.toInt = 4 ∨ a.toInt = 5 by omega) with hs5 | hs5 | hs5 | hs5 | hs5 | hs5
          · obtain rfl : a = 0 := i_is hs5 (by decide)
            refine w_aaldv (j := 0) (r := 38) rfl rfl (by decide) (by unfold vp_in; decide) (hR _ fmR_37_0) ?_
            refine w_astore rfl rfl ?_
            refine w_aload rfl rfl ?_
            refine w_getR (r := 37) rfl rfl (hR _ fmR_0_11) ?_
            refine w_iload rfl rfl ?_
            rcases (show c.toInt = 0 ∨ c.toInt = 1 ∨ c.toInt = 2 ∨ c.toInt = 3 ∨ c.toInt = 4 ∨ c.toInt = 5 by omega) with hs6 | hs6 | hs6 | hs6 | hs6 | hs6
            · obtain rfl : c = 0 := i_is hs6 (by decide)
              refine w_aaldv (j := 0) (r := 38) rfl rfl (by decide) (by unfold vp_in; decide) (hR _ fmR_37_0) ?_
              refine w_astore rfl rfl ?_
              refine w_aload rfl rfl ?_
              refine w_callVi (As := []) (le := [some _]) rfl rfl rfl (Nat.le_of_ble_eq_true rfl) (Nat.le_of_ble_eq_true rfl) rfl ?_
              refine w_aload rfl rfl ?_
              refine w_getIv (x := 0) rfl rfl (hI _ fmI_38_0) ?_
              refine w_if_ne rfl (fun h => absurd (by decide) h) (fun _ => ?_)
              refine w_pushI rfl ?_
              refine w_goto rfl ?_
              refine w_iret rfl (Or.inr ⟨rfl, by decide⟩) ?_
              show gW _ _ _ _ _ _ _ _ _ _
              refine w_if_ne rfl (fun _ => ?_) (fun h => absurd h (by decide))
              refine w_pushI rfl ?_
              refine w_iret rfl (Or.inl rfl) ?_
              exact ⟨congrArg (fun v => some (Value.int v)) (show ((-11) : Int32) = f1_shift (0) b (0) g e by have e0 : (0 : Int32).toInt = 0 := rfl; have e1 : (0 : Int32).toInt = 0 := rfl; exact ite_eq_of (fun _ => rfl) (fun hc => absurd (by omega) hc)), rfl, fun x hx => rfl, fun x hx => rfl, fun x hx => rfl⟩
            · obtain rfl : c = 1 := i_is hs6 (by decide)
              refine w_aaldv (j := 1) (r := 40) rfl rfl (by decide) (by unfold vp_in; decide) (hR _ fmR_37_1) ?_
              refine w_astore rfl rfl ?_
              refine w_aload rfl rfl ?_
              refine w_callVi (As := []) (le := [some _]) rfl rfl rfl (Nat.le_of_ble_eq_true rfl) (Nat.le_of_ble_eq_true rfl) rfl ?_
              refine w_aload rfl rfl ?_
              refine w_getIv (x := 0) rfl rfl (hI _ fmI_38_0) ?_
              refine w_if_ne rfl (fun h => absurd (by decide) h) (fun _ => ?_)
              refine w_pushI rfl ?_
              refine w_goto rfl ?_
              refine w_iret rfl (Or.inr ⟨rfl, by decide⟩) ?_
              show gW _ _ _ _ _ _ _ _ _ _
              refine w_if_ne rfl (fun _ => ?_) (fun h => absurd h (by decide))
              refine w_pushI rfl ?_
              refine w_iret rfl (Or.inl rfl) ?_
              exact ⟨congrArg (fun v => some (Value.int v)) (show ((-11) : Int32) = f1_shift (0) b (1) g e by have e0 : (0 : Int32).toInt = 0 := rfl; have e1 : (1 : Int32).toInt = 1 := rfl; exact ite_eq_of (fun _ => rfl) (fun hc => absurd (by omega) hc)), rfl, fun x hx => rfl, fun x hx => rfl, fun x hx => rfl⟩
            · obtain rfl : c = 2 := i_is hs6 (by decide)
              refine w_aaldv (j := 2) (r := 42) rfl rfl (by decide) (by unfold vp_in; decide) (hR _ fmR_37_2) ?_
              refine w_astore rfl rfl ?_
              refine w_aload rfl rfl ?_
              refine w_callVi (As := []) (le := [some _]) rfl rfl rfl (Nat.le_of_ble_eq_true rfl) (Nat.le_of_ble_eq_true rfl) rfl ?_
              refine w_aload rfl rfl ?_
              refine w_getIv (x := 0) rfl rfl (hI _ fmI_38_0) ?_
              refine w_if_ne rfl (fun h => absurd (by decide) h) (fun _ => ?_)
              refine w_pushI rfl ?_
              refine w_goto rfl ?_
              refine w_iret rfl (Or.inr ⟨rfl, by decide⟩) ?_
              show gW _ _ _ _ _ _ _ _ _ _
              refine w_if_ne rfl (fun _ => ?_) (fun h => absurd h (by decide))
              refine w_pushI rfl ?_
              refine w_iret rfl (Or.inl rfl) ?_
              exact ⟨congrArg (fun v => some (Value.int v)) (show ((-11) : Int32) = f1_shift (0) b (2) g e by have e0 : (0 : Int32).toInt = 0 := rfl; have e1 : (2 : Int32).toInt = 2 := rfl; exact ite_eq_of (fun _ => rfl) (fun hc => absurd (by omega) hc)), rfl, fun x hx => rfl, fun x hx => rfl, fun x hx => rfl⟩
            · obtain rfl : c = 3 := i_is hs6 (by decide)
              refine w_aaldv (j := 3) (r := 44) rfl rfl (by decide) (by unfold vp_in; decide) (hR _ fmR_37_3) ?_
              refine w_astore rfl rfl ?_
              refine w_aload rfl rfl ?_
              refine w_callVi (As := []) (le := [some _]) rfl rfl rfl (Nat.le_of_ble_eq_true rfl) (Nat.le_of_ble_eq_true rfl) rfl ?_
              refine w_aload rfl rfl ?_
              refine w_getIv (x := 0) rfl rfl (hI _ fmI_38_0) ?_
              refine w_if_ne rfl (fun h => absurd (by decide) h) (fun _ => ?_)
              refine w_pushI rfl ?_
              refine w_goto rfl ?_
              refine w_iret rfl (Or.inr ⟨rfl, by decide⟩) ?_
              show gW _ _ _ _ _ _ _ _ _ _
              refine w_if_ne rfl (fun _ => ?_) (fun h => absurd h (by decide))
              refine w_pushI rfl ?_
              refine w_iret rfl (Or.inl rfl) ?_
              exact ⟨congrArg (fun v => some (Value.int v)) (show ((-11) : Int32) = f1_shift (0) b (3) g e by have e0 : (0 : Int32).toInt = 0 := rfl; have e1 : (3 : Int32).toInt = 3 := rfl; exact ite_eq_of (fun _ => rfl) (fun hc => absurd (by omega) hc)), rfl, fun x hx => rfl, fun x hx => rfl, fun x hx => rfl⟩
            · obtain rfl : c = 4 := i_is hs6 (by decide)
              refine w_aaldv (j := 4) (r := 46) rfl rfl (by decide) (by unfold vp_in; decide) (hR _ fmR_37_4) ?_
              refine w_astore rfl rfl ?_
              refine w_aload rfl rfl ?_
              refine w_callVi (As := []) (le := [some _]) rfl rfl rfl (Nat.le_of_ble_eq_true rfl) (Nat.le_of_ble_eq_true rfl) rfl ?_
              refine w_aload rfl rfl ?_
              refine w_getIv (x := 0) rfl rfl (hI _ fmI_38_0) ?_
              refine w_if_ne rfl (fun h => absurd (by decide) h) (fun _ => ?_)
              refine w_pushI rfl ?_
              refine w_goto rfl ?_
              refine w_iret rfl (Or.inr ⟨rfl, by decide⟩) ?_
              show gW _ _ _ _ _ _ _ _ _ _
              refine w_if_ne rfl (fun _ => ?_) (fun h => absurd h (by decide))
              refine w_pushI rfl ?_
              refine w_iret rfl (Or.inl rfl) ?_
              exact ⟨congrArg (fun v => some (Value.int v)) (show ((-11) : Int32) = f1_shift (0) b (4) g e by have e0 : (0 : Int32).toInt = 0 := rfl; have e1 : (4 : Int32).toInt = 4 := rfl; exact ite_eq_of (fun _ => rfl) (fun hc => absurd (by omega) hc)), rfl, fun x hx => rfl, fun x hx => rfl, fun x hx => rfl⟩
            · obtain rfl : c = 5 := i_is hs6 (by decide)
              refine w_aaldv (j := 5) (r := 48) rfl rfl (by decide) (by unfold vp_in; decide) (hR _ fmR_37_5) ?_
              refine w_astore rfl rfl ?_
              refine w_aload rfl rfl ?_
              refine w_callVi (As := []) (le := [some _]) rfl rfl rfl (Nat.le_of_ble_eq_true rfl) (Nat.le_of_ble_eq_true rfl) rfl ?_
              refine w_aload rfl rfl ?_
              refine w_getIv (x := 0) rfl rfl (hI _ fmI_38_0) ?_
              refine w_if_ne rfl (fun h => absurd (by decide) h) (fun _ => ?_)
              refine w_pushI rfl ?_
              refine w_goto rfl ?_
              refine w_iret rfl (Or.inr ⟨rfl, by decide⟩) ?_
              show gW _ _ _ _ _ _ _ _ _ _
              refine w_if_ne rfl (fun _ => ?_) (fun h => absurd h (by decide))
              refine w_pushI rfl ?_
              refine w_iret rfl (Or.inl rfl) ?_
              exact ⟨congrArg (fun v => some (Value.int v)) (show ((-11) : Int32) = f1_shift (0) b (5) g e by have e0 : (0 : Int32).toInt = 0 := rfl; have e1 : (5 : Int32).toInt = 5 := rfl; exact ite_eq_of (fun _ => rfl) (fun hc => absurd (by omega) hc)), rfl, fun x hx => rfl, fun x hx => rfl, fun x hx => rfl⟩
          · obtain rfl : a = 1 := i_is hs5 (by decide)
            refine w_aaldv (j := 1) (r := 40) rfl rfl (by decide) (by unfold vp_in; decide) (hR _ fmR_37_1) ?_
            refine w_astore rfl rfl ?_
            refine w_aload rfl rfl ?_
            refine w_getR (r := 37) rfl rfl (hR _ fmR_0_11) ?_
            refine w_iload rfl rfl ?_
            rcases (show c.toInt = 0 ∨ c.toInt = 1 ∨ c.toInt = 2 ∨ c.toInt = 3 ∨ c.toInt = 4 ∨ c.toInt = 5 by omega) with hs6 | hs6 | hs6 | hs6 | hs6 | hs6
            · obtain rfl : c = 0 := i_is hs6 (by decide)
              refine w_aaldv (j := 0) (r := 38) rfl rfl (by decide) (by unfold vp_in; decide) (hR _ fmR_37_0) ?_
              refine w_astore rfl rfl ?_
              refine w_aload rfl rfl ?_
              refine w_callVi (As := []) (le := [some _]) rfl rfl rfl (Nat.le_of_ble_eq_true rfl) (Nat.le_of_ble_eq_true rfl) rfl ?_
              refine w_aload rfl rfl ?_
              refine w_getIv (x := 0) rfl rfl (hI _ fmI_40_0) ?_
              refine w_if_ne rfl (fun h => absurd (by decide) h) (fun _ => ?_)
              refine w_pushI rfl ?_
              refine w_goto rfl ?_
              refine w_iret rfl (Or.inr ⟨rfl, by decide⟩) ?_
              show gW _ _ _ _ _ _ _ _ _ _
              refine w_if_ne rfl (fun _ => ?_) (fun h => absurd h (by decide))
              refine w_pushI rfl ?_
              refine w_iret rfl (Or.inl rfl) ?_
              exact ⟨congrArg (fun v => some (Value.int v)) (show ((-11) : Int32) = f1_shift (1) b (0) g e by have e0 : (1 : Int32).toInt = 1 := rfl; have e1 : (0 : Int32).toInt = 0 := rfl; exact ite_eq_of (fun _ => rfl) (fun hc => absurd (by omega) hc)), rfl, fun x hx => rfl, fun x hx => rfl, fun x hx => rfl⟩
            · obtain rfl : c = 1 := i_is hs6 (by decide)
              refine w_aaldv (j := 1) (r := 40) rfl rfl (by decide) (by unfold vp_in; decide) (hR _ fmR_37_1) ?_
              refine w_astore rfl rfl ?_
              refine w_aload rfl rfl ?_
              refine w_callVi (As := []) (le := [some _]) rfl rfl rfl (Nat.le_of_ble_eq_true rfl) (Nat.le_of_ble_eq_true rfl) rfl ?_
              refine w_aload rfl rfl ?_
              refine w_getIv (x := 0) rfl rfl (hI _ fmI_40_0) ?_
              refine w_if_ne rfl (fun h => absurd (by decide) h) (fun _ => ?_)
              refine w_pushI rfl ?_
              refine w_goto rfl ?_
              refine w_iret rfl (Or.inr ⟨rfl, by decide⟩) ?_
              show gW _ _ _ _ _ _ _ _ _ _
              refine w_if_ne rfl (fun _ => ?_) (fun h => absurd h (by decide))
              refine w_pushI rfl ?_
              refine w_iret rfl (Or.inl rfl) ?_
              exact ⟨congrArg (fun v => some (Value.int v)) (show ((-11) : Int32) = f1_shift (1) b (1) g e by have e0 : (1 : Int32).toInt = 1 := rfl; have e1 : (1 : Int32).toInt = 1 := rfl; exact ite_eq_of (fun _ => rfl) (fun hc => absurd (by omega) hc)), rfl, fun x hx => rfl, fun x hx => rfl, fun x hx => rfl⟩
            · obtain rfl : c = 2 := i_is hs6 (by decide)
              refine w_aaldv (j := 2) (r := 42) rfl rfl (by decide) (by unfold vp_in; decide) (hR _ fmR_37_2) ?_
              refine w_astore rfl rfl ?_
              refine w_aload rfl rfl ?_
              refine w_callVi (As := []) (le := [some _]) rfl rfl rfl (Nat.le_of_ble_eq_true rfl) (Nat.le_of_ble_eq_true rfl) rfl ?_
              refine w_aload rfl rfl ?_
              refine w_getIv (x := 0) rfl rfl (hI _ fmI_40_0) ?_
              refine w_if_ne rfl (fun h => absurd (by decide) h) (fun _ => ?_)
              refine w_pushI rfl ?_
              refine w_goto rfl ?_
              refine w_iret rfl (Or.inr ⟨rfl, by decide⟩) ?_
              show gW _ _ _ _ _ _ _ _ _ _
              refine w_if_ne rfl (fun _ => ?_) (fun h => absurd h (by decide))
              refine w_pushI rfl ?_
              refine w_iret rfl (Or.inl rfl) ?_
              exact ⟨congrArg (fun v => some (Value.int v)) (show ((-11) : Int32) = f1_shift (1) b (2) g e by have e0 : (1 : Int32).toInt = 1 := rfl; have e1 : (2 : Int32).toInt = 2 := rfl; exact ite_eq_of (fun _ => rfl) (fun hc => absurd (by omega) hc)), rfl, fun x hx => rfl, fun x hx => rfl, fun x hx => rfl⟩
            · obtain rfl : c = 3 := i_is hs6 (by decide)
              refine w_aaldv (j := 3) (r := 44) rfl rfl (by decide) (by unfold vp_in; decide) (hR _ fmR_37_3) ?_
              refine w_astore rfl rfl ?_
              refine w_aload rfl rfl ?_
              refine w_callVi (As := []) (le := [some _]) rfl rfl rfl (Nat.le_of_ble_eq_true rfl) (Nat.le_of_ble_eq_true rfl) rfl ?_
              refine w_aload rfl rfl ?_
              refine w_getIv (x := 0) rfl rfl (hI _ fmI_40_0) ?_
              refine w_if_ne rfl (fun h => absurd (by decide) h) (fun _ => ?_)
              refine w_pushI rfl ?_
              refine w_goto rfl ?_
              refine w_iret rfl (Or.inr ⟨rfl, by decide⟩) ?_
              show gW _ _ _ _ _ _ _ _ _ _
              refine w_if_ne rfl (fun _ => ?_) (fun h => absurd h (by decide))
              refine w_pushI rfl ?_
              refine w_iret rfl (Or.inl rfl) ?_
              exact ⟨congrArg (fun v => some (Value.int v)) (show ((-11) : Int32) = f1_shift (1) b (3) g e by have e0 : (1 : Int32).toInt = 1 := rfl; have e1 : (3 : Int32).toInt = 3 := rfl; exact ite_eq_of (fun _ => rfl) (fun hc => absurd (by omega) hc)), rfl, fun x hx => rfl, fun x hx => rfl, fun x hx => rfl⟩
            · obtain rfl : c = 4 := i_is hs6 (by decide)
              refine w_aaldv (j := 4) (r := 46) rfl rfl (by decide) (by unfold vp_in; decide) (hR _ fmR_37_4) ?_
              refine w_astore rfl rfl ?_
              refine w_aload rfl rfl ?_
              refine w_callVi (As := []) (le := [some _]) rfl rfl rfl (Nat.le_of_ble_eq_true rfl) (Nat.le_of_ble_eq_true rfl) rfl ?_
              refine w_aload rfl rfl ?_
              refine w_getIv (x := 0) rfl rfl (hI _ fmI_40_0) ?_
              refine w_if_ne rfl (fun h => absurd (by decide) h) (fun _ => ?_)
              refine w_pushI rfl ?_
              refine w_goto rfl ?_
              refine w_iret rfl (Or.inr ⟨rfl, by decide⟩) ?_
              show gW _ _ _ _ _ _ _ _ _ _
              refine w_if_ne rfl (fun _ => ?_) (fun h => absurd h (by decide))
              refine w_pushI rfl ?_
              refine w_iret rfl (Or.inl rfl) ?_
              exact ⟨congrArg (fun v => some (Value.int v)) (show ((-11) : Int32) = f1_shift (1) b (4) g e by have e0 : (1 : Int32).toInt = 1 := rfl; have e1 : (4 : Int32).toInt = 4 := rfl; exact ite_eq_of (fun _ => rfl) (fun hc => absurd (by omega) hc)), rfl, fun x hx => rfl, fun x hx => rfl, fun x hx => rfl⟩
            · obtain rfl : c = 5 := i_is hs6 (by decide)
              refine w_aaldv (j := 5) (r := 48) rfl rfl (by decide) (by unfold vp_in; decide) (hR _ fmR_37_5) ?_
              refine w_astore rfl rfl ?_
              refine w_aload rfl rfl ?_
              refine w_callVi (As := []) (le := [some _]) rfl rfl rfl (Nat.le_of_ble_eq_true rfl) (Nat.le_of_ble_eq_true rfl) rfl ?_
              refine w_aload rfl rfl ?_
              refine w_getIv (x := 0) rfl rfl (hI _ fmI_40_0) ?_
              refine w_if_ne rfl (fun h => absurd (by decide) h) (fun _ => ?_)
              refine w_pushI rfl ?_
              refine w_goto rfl ?_
              refine w_iret rfl (Or.inr ⟨rfl, by decide⟩) ?_
              show gW _ _ _ _ _ _ _ _ _ _
              refine w_if_ne rfl (fun _ => ?_) (fun h => absurd h (by decide))
              refine w_pushI rfl ?_
              refine w_iret rfl (Or.inl rfl) ?_
              exact ⟨congrArg (fun v => some (Value.int v)) (show ((-11) : Int32) = f1_shift (1) b (5) g e by have e0 : (1 : Int32).toInt = 1 := rfl; have e1 : (5 : Int32).toInt = 5 := rfl; exact ite_eq_of (fun _ => rfl) (fun hc => absurd (by omega) hc)), rfl, fun x hx => rfl, fun x hx => rfl, fun x hx => rfl⟩
          · obtain rfl : a = 2 := i_is hs5 (by decide)
            refine w_aaldv (j := 2) (r := 42) rfl rfl (by decide) (by unfold vp_in; decide) (hR _ fmR_37_2) ?_
            refine w_astore rfl rfl ?_
            refine w_aload rfl rfl ?_
            refine w_getR (r := 37) rfl rfl (hR _ fmR_0_11) ?_
            refine w_iload rfl rfl ?_
            rcases (show c.toInt = 0 ∨ c.toInt = 1 ∨ c.toInt = 2 ∨ c.toInt = 3 ∨ c.toInt = 4 ∨ c.toInt = 5 by omega) with hs6 | hs6 | hs6 | hs6 | hs6 | hs6
            · obtain rfl : c = 0 := i_is hs6 (by decide)
              refine w_aaldv (j := 0) (r := 38) rfl rfl (by decide) (by unfold vp_in; decide) (hR _ fmR_37_0) ?_
              refine w_astore rfl rfl ?_
              refine w_aload rfl rfl ?_
              refine w_callVi (As := []) (le := [some _]) rfl rfl rfl (Nat.le_of_ble_eq_true rfl) (Nat.le_of_ble_eq_true rfl) rfl ?_
              refine w_aload rfl rfl ?_
              refine w_getIv (x := 0) rfl rfl (hI _ fmI_42_0) ?_
              refine w_if_ne rfl (fun h => absurd (by decide) h) (fun _ => ?_)
              refine w_pushI rfl ?_
              refine w_goto rfl ?_
              refine w_iret rfl (Or.inr ⟨rfl, by decide⟩) ?_
              show gW _ _ _ _ _ _ _ _ _ _
              refine w_if_ne rfl (fun _ => ?_) (fun h => absurd h (by decide))
              refine w_pushI rfl ?_
              refine w_iret rfl (Or.inl rfl) ?_
              exact ⟨congrArg (fun v => some (Value.int v)) (show ((-11) : Int32) = f1_shift (2) b (0) g e by have e0 : (2 : Int32).toInt = 2 := rfl; have e1 : (0 : Int32).toInt = 0 := rfl; exact ite_eq_of (fun _ => rfl) (fun hc => absurd (by omega) hc)), rfl, fun x hx => rfl, fun x hx => rfl, fun x hx => rfl⟩
            · obtain rfl : c = 1 := i_is hs6 (by decide)
              refine w_aaldv (j := 1) (r := 40) rfl rfl (by decide) (by unfold vp_in; decide) (hR _ fmR_37_1) ?_
              refine w_astore rfl rfl ?_
              refine w_aload rfl rfl ?_
              refine w_callVi (As := []) (le := [some _]) rfl rfl rfl (Nat.le_of_ble_eq_true rfl) (Nat.le_of_ble_eq_true rfl) rfl ?_
              refine w_aload rfl rfl ?_
              refine w_getIv (x := 0) rfl rfl (hI _ fmI_42_0) ?_
              refine w_if_ne rfl (fun h => absurd (by decide) h) (fun _ => ?_)
              refine w_pushI rfl ?_
              refine w_goto rfl ?_
              refine w_iret rfl (Or.inr ⟨rfl, by decide⟩) ?_
              show gW _ _ _ _ _ _ _ _ _ _
              refine w_if_ne rfl (fun _ => ?_) (fun h => absurd h (by decide))
              refine w_pushI rfl ?_
              refine w_iret rfl (Or.inl rfl) ?_
              exact ⟨congrArg (fun v => some (Value.int v)) (show ((-11) : Int32) = f1_shift (2) b (1) g e by have e0 : (2 : Int32).toInt = 2 := rfl; have e1 : (1 : Int32).toInt = 1 := rfl; exact ite_eq_of (fun _ => rfl) (fun hc => absurd (by omega) hc)), rfl, fun x hx => rfl, fun x hx => rfl, fun x hx => rfl⟩
            · obtain rfl : c = 2 := i_is hs6 (by decide)
              refine w_aaldv (j := 2) (r := 42) rfl rfl (by decide) (by unfold vp_in; decide) (hR _ fmR_37_2) ?_
              refine w_astore rfl rfl ?_
              refine w_aload rfl rfl ?_
              refine w_callVi (As := []) (le := [some _]) rfl rfl rfl (Nat.le_of_ble_eq_true rfl) (Nat.le_of_ble_eq_true rfl) rfl ?_
              refine w_aload rfl rfl ?_
              refine w_getIv (x := 0) rfl rfl (hI _ fmI_42_0) ?_
              refine w_if_ne rfl (fun h => absurd (by decide) h) (fun _ => ?_)
              refine w_pushI rfl ?_
              refine w_goto rfl ?_
              refine w_iret rfl (Or.inr ⟨rfl, by decide⟩) ?_
              show gW _ _ _ _ _ _ _ _ _ _
              refine w_if_ne rfl (fun _ => ?_) (fun h => absurd h (by decide))
              refine w_pushI rfl ?_
              refine w_iret rfl (Or.inl rfl) ?_
              exact ⟨congrArg (fun v => some (Value.int v)) (show ((-11) : Int32) = f1_shift (2) b (2) g e by have e0 : (2 : Int32).toInt = 2 := rfl; have e1 : (2 : Int32).toInt = 2 := rfl; exact ite_eq_of (fun _ => rfl) (fun hc => absurd (by omega) hc)), rfl, fun x hx => rfl, fun x hx => rfl, fun x hx => rfl⟩
            · obtain rfl : c = 3 := i_is hs6 (by decide)
              refine w_aaldv (j := 3) (r := 44) rfl rfl (by decide) (by unfold vp_in; decide) (hR _ fmR_37_3) ?_
              refine w_astore rfl rfl ?_
              refine w_aload rfl rfl ?_
              refine w_callVi (As := []) (le := [some _]) rfl rfl rfl (Nat.le_of_ble_eq_true rfl) (Nat.le_of_ble_eq_true rfl) rfl ?_
              refine w_aload rfl rfl ?_
              refine w_getIv (x := 0) rfl rfl (hI _ fmI_42_0) ?_
              refine w_if_ne rfl (fun h => absurd (by decide) h) (fun _ => ?_)
              refine w_pushI rfl ?_
              refine w_goto rfl ?_
              refine w_iret rfl (Or.inr ⟨rfl, by decide⟩) ?_
              show gW _ _ _ _ _ _ _ _ _ _
              refine w_if_ne rfl (fun _ => ?_) (fun h => absurd h (by decide))
              refine w_pushI rfl ?_
              refine w_iret rfl (Or.inl rfl) ?_
              exact ⟨congrArg (fun v => some (Value.int v)) (show ((-11) : Int32) = f1_shift (2) b (3) g e by have e0 : (2 : Int32).toInt = 2 := rfl; have e1 : (3 : Int32).toInt = 3 := rfl; exact ite_eq_of (fun _ => rfl) (fun hc => absurd (by omega) hc)), rfl, fun x hx => rfl, fun x hx => rfl, fun x hx => rfl⟩
            · obtain rfl : c = 4 := i_is hs6 (by decide)
              refine w_aaldv (j := 4) (r := 46) rfl rfl (by decide) (by unfold vp_in; decide) (hR _ fmR_37_4) ?_
              refine w_astore rfl rfl ?_
              refine w_aload rfl rfl ?_
              refine w_callVi (As := []) (le := [some _]) rfl rfl rfl (Nat.le_of_ble_eq_true rfl) (Nat.le_of_ble_eq_true rfl) rfl ?_
              refine w_aload rfl rfl ?_
              refine w_getIv (x := 0) rfl rfl (hI _ fmI_42_0) ?_
              refine w_if_ne rfl (fun h => absurd (by decide) h) (fun _ => ?_)
              refine w_pushI rfl ?_
              refine w_goto rfl ?_
              refine w_iret rfl (Or.inr ⟨rfl, by decide⟩) ?_
              show gW _ _ _ _ _ _ _ _ _ _
              refine w_if_ne rfl (fun _ => ?_) (fun h => absurd h (by decide))
              refine w_pushI rfl ?_
              refine w_iret rfl (Or.inl rfl) ?_
              exact ⟨congrArg (fun v => some (Value.int v)) (show ((-11) : Int32) = f1_shift (2) b (4) g e by have e0 : (2 : Int32).toInt = 2 := rfl; have e1 : (4 : Int32).toInt = 4 := rfl; exact ite_eq_of (fun _ => rfl) (fun hc => absurd (by omega) hc)), rfl, fun x hx => rfl, fun x hx => rfl, fun x hx => rfl⟩
            · obtain rfl : c = 5 := i_is hs6 (by decide)
              refine w_aaldv (j := 5) (r := 48) rfl rfl (by decide) (by unfold vp_in; decide) (hR _ fmR_37_5) ?_
              refine w_astore rfl rfl ?_
              refine w_aload rfl rfl ?_
              refine w_callVi (As := []) (le := [some _]) rfl rfl rfl (Nat.le_of_ble_eq_true rfl) (Nat.le_of_ble_eq_true rfl) rfl ?_
              refine w_aload rfl rfl ?_
              refine w_getIv (x := 0) rfl rfl (hI _ fmI_42_0) ?_
              refine w_if_ne rfl (fun h => absurd (by decide) h) (fun _ => ?_)
              refine w_pushI rfl ?_
              refine w_goto rfl ?_
              refine w_iret rfl (Or.inr ⟨rfl, by decide⟩) ?_
              show gW _ _ _ _ _ _ _ _ _ _
              refine w_if_ne rfl (fun _ => ?_) (fun h => absurd h (by decide))
              refine w_pushI rfl ?_
              refine w_iret rfl (Or.inl rfl) ?_
              exact ⟨congrArg (fun v => some (Value.int v)) (show ((-11) : Int32) = f1_shift (2) b (5) g e by have e0 : (2 : Int32).toInt = 2 := rfl; have e1 : (5 : Int32).toInt = 5 := rfl; exact ite_eq_of (fun _ => rfl) (fun hc => absurd (by omega) hc)), rfl, fun x hx => rfl, fun x hx => rfl, fun x hx => rfl⟩
          · obtain rfl : a = 3 := i_is hs5 (by decide)
            refine w_aaldv (j := 3) (r := 44) rfl rfl (by decide) (by unfold vp_in; decide) (hR _ fmR_37_3) ?_
            refine w_astore rfl rfl ?_
            refine w_aload rfl rfl ?_
            refine w_getR (r := 37) rfl rfl (hR _ fmR_0_11) ?_
            refine w_iload rfl rfl ?_
            rcases (show c.toInt = 0 ∨ c.toInt = 1 ∨ c.toInt = 2 ∨ c.toInt = 3 ∨ c.toInt = 4 ∨ c.toInt = 5 by omega) with hs6 | hs6 | hs6 | hs6 | hs6 | hs6
            · obtain rfl : c = 0 := i_is hs6 (by decide)
              refine w_aaldv (j := 0) (r := 38) rfl rfl (by decide) (by unfold vp_in; decide) (hR _ fmR_37_0) ?_
              refine w_astore rfl rfl ?_
              refine w_aload rfl rfl ?_
              refine w_callVi (As := []) (le := [some _]) rfl rfl rfl (Nat.le_of_ble_eq_true rfl) (Nat.le_of_ble_eq_true rfl) rfl ?_
              refine w_aload rfl rfl ?_
              refine w_getIv (x := 0) rfl rfl (hI _ fmI_44_0) ?_
              refine w_if_ne rfl (fun h => absurd (by decide) h) (fun _ => ?_)
              refine w_pushI rfl ?_
              refine w_goto rfl ?_
              refine w_iret rfl (Or.inr ⟨rfl, by decide⟩) ?_
              show gW _ _ _ _ _ _ _ _ _ _
              refine w_if_ne rfl (fun _ => ?_) (fun h => absurd h (by decide))
              refine w_pushI rfl ?_
              refine w_iret rfl (Or.inl rfl) ?_
              exact ⟨congrArg (fun v => some (Value.int v)) (show ((-11) : Int32) = f1_shift (3) b (0) g e by have e0 : (3 : Int32).toInt = 3 := rfl; have e1 : (0 : Int32).toInt = 0 := rfl; exact ite_eq_of (fun _ => rfl) (fun hc => absurd (by omega) hc)), rfl, fun x hx => rfl, fun x hx => rfl, fun x hx => rfl⟩
            · obtain rfl : c = 1 := i_is hs6 (by decide)
              refine w_aaldv (j := 1) (r := 40) rfl rfl (by decide) (by unfold vp_in; decide) (hR _ fmR_37_1) ?_
              refine w_astore rfl rfl ?_
              refine w_aload rfl rfl ?_
              refine w_callVi (As := []) (le := [some _]) rfl rfl rfl (Nat.le_of_ble_eq_true rfl) (Nat.le_of_ble_eq_true rfl) rfl ?_
              refine w_aload rfl rfl ?_
              refine w_getIv (x := 0) rfl rfl (hI _ fmI_44_0) ?_
              refine w_if_ne rfl (fun h => absurd (by decide) h) (fun _ => ?_)
              refine w_pushI rfl ?_
              refine w_goto rfl ?_
              refine w_iret rfl (Or.inr ⟨rfl, by decide⟩) ?_
              show gW _ _ _ _ _ _ _ _ _ _
              refine w_if_ne rfl (fun _ => ?_) (fun h => absurd h (by decide))
              refine w_pushI rfl ?_
              refine w_iret rfl (Or.inl rfl) ?_
              exact ⟨congrArg (fun v => some (Value.int v)) (show ((-11) : Int32) = f1_shift (3) b (1) g e by have e0 : (3 : Int32).toInt = 3 := rfl; have e1 : (1 : Int32).toInt = 1 := rfl; exact ite_eq_of (fun _ => rfl) (fun hc => absurd (by omega) hc)), rfl, fun x hx => rfl, fun x hx => rfl, fun x hx => rfl⟩
            · obtain rfl : c = 2 := i_is hs6 (by decide)
              refine w_aaldv (j := 2) (r := 42) rfl rfl (by decide) (by unfold vp_in; decide) (hR _ fmR_37_2) ?_
              refine w_astore rfl rfl ?_
              refine w_aload rfl rfl ?_
              refine w_callVi (As := []) (le := [some _]) rfl rfl rfl (Nat.le_of_ble_eq_true rfl) (Nat.le_of_ble_eq_true rfl) rfl ?_
              refine w_aload rfl rfl ?_
              refine w_getIv (x := 0) rfl rfl (hI _ fmI_44_0) ?_
              refine w_if_ne rfl (fun h => absurd (by decide) h) (fun _ => ?_)
              refine w_pushI rfl ?_
              refine w_goto rfl ?_
              refine w_iret rfl (Or.inr ⟨rfl, by decide⟩) ?_
              show gW _ _ _ _ _ _ _ _ _ _
              refine w_if_ne rfl (fun _ => ?_) (fun h => absurd h (by decide))
              refine w_pushI rfl ?_
              refine w_iret rfl (Or.inl rfl) ?_
              exact ⟨congrArg (fun v => some (Value.int v)) (show ((-11) : Int32) = f1_shift (3) b (2) g e by have e0 : (3 : Int32).toInt = 3 := rfl; have e1 : (2 : Int32).toInt = 2 := rfl; exact ite_eq_of (fun _ => rfl) (fun hc => absurd (by omega) hc)), rfl, fun x hx => rfl, fun x hx => rfl, fun x hx => rfl⟩
            · obtain rfl : c = 3 := i_is hs6 (by decide)
              refine w_aaldv (j := 3) (r := 44) rfl rfl (by decide) (by unfold vp_in; decide) (hR _ fmR_37_3) ?_
              refine w_astore rfl rfl ?_
              refine w_aload rfl rfl ?_
              refine w_callVi (As := []) (le := [some _]) rfl rfl rfl (Nat.le_of_ble_eq_true rfl) (Nat.le_of_ble_eq_true rfl) rfl ?_
              refine w_aload rfl rfl ?_
              refine w_getIv (x := 0) rfl rfl (hI _ fmI_44_0) ?_
              refine w_if_ne rfl (fun h => absurd (by decide) h) (fun _ => ?_)
              refine w_pushI rfl ?_
              refine w_goto rfl ?_
              refine w_iret rfl (Or.inr ⟨rfl, by decide⟩) ?_
              show gW _ _ _ _ _ _ _ _ _ _
              refine w_if_ne rfl (fun _ => ?_) (fun h => absurd h (by decide))
              refine w_pushI rfl ?_
              refine w_iret rfl (Or.inl rfl) ?_
              exact ⟨congrArg (fun v => some (Value.int v)) (show ((-11) : Int32) = f1_shift (3) b (3) g e by have e0 : (3 : Int32).toInt = 3 := rfl; have e1 : (3 : Int32).toInt = 3 := rfl; exact ite_eq_of (fun _ => rfl) (fun hc => absurd (by omega) hc)), rfl, fun x hx => rfl, fun x hx => rfl, fun x hx => rfl⟩
            · obtain rfl : c = 4 := i_is hs6 (by decide)
              refine w_aaldv (j := 4) (r := 46) rfl rfl (by decide) (by unfold vp_in; decide) (hR _ fmR_37_4) ?_
              refine w_astore rfl rfl ?_
              refine w_aload rfl rfl ?_
              refine w_callVi (As := []) (le := [some _]) rfl rfl rfl (Nat.le_of_ble_eq_true rfl) (Nat.le_of_ble_eq_true rfl) rfl ?_
              refine w_aload rfl rfl ?_
              refine w_getIv (x := 0) rfl rfl (hI _ fmI_44_0) ?_
              refine w_if_ne rfl (fun h => absurd (by decide) h) (fun _ => ?_)
              refine w_pushI rfl ?_
              refine w_goto rfl ?_
              refine w_iret rfl (Or.inr ⟨rfl, by decide⟩) ?_
              show gW _ _ _ _ _ _ _ _ _ _
              refine w_if_ne rfl (fun _ => ?_) (fun h => absurd h (by decide))
              refine w_pushI rfl ?_
              refine w_iret rfl (Or.inl rfl) ?_
              exact ⟨congrArg (fun v => some (Value.int v)) (show ((-11) : Int32) = f1_shift (3) b (4) g e by have e0 : (3 : Int32).toInt = 3 := rfl; have e1 : (4 : Int32).toInt = 4 := rfl; exact ite_eq_of (fun _ => rfl) (fun hc => absurd (by omega) hc)), rfl, fun x hx => rfl, fun x hx => rfl, fun x hx => rfl⟩
            · obtain rfl : c = 5 := i_is hs6 (by decide)
              refine w_aaldv (j := 5) (r := 48) rfl rfl (by decide) (by unfold vp_in; decide) (hR _ fmR_37_5) ?_
              refine w_astore rfl rfl ?_
              refine w_aload rfl rfl ?_
              refine w_callVi (As := []) (le := [some _]) rfl rfl rfl (Nat.le_of_ble_eq_true rfl) (Nat.le_of_ble_eq_true rfl) rfl ?_
              refine w_aload rfl rfl ?_
              refine w_getIv (x := 0) rfl rfl (hI _ fmI_44_0) ?_
              refine w_if_ne rfl (fun h => absurd (by decide) h) (fun _ => ?_)
              refine w_pushI rfl ?_
              refine w_goto rfl ?_
              refine w_iret rfl (Or.inr ⟨rfl, by decide⟩) ?_
              show gW _ _ _ _ _ _ _ _ _ _
              refine w_if_ne rfl (fun _ => ?_) (fun h => absurd h (by decide))
              refine w_pushI rfl ?_
              refine w_iret rfl (Or.inl rfl) ?_
              exact ⟨congrArg (fun v => some (Value.int v)) (show ((-11) : Int32) = f1_shift (3) b (5) g e by have e0 : (3 : Int32).toInt = 3 := rfl; have e1 : (5 : Int32).toInt = 5 := rfl; exact ite_eq_of (fun _ => rfl) (fun hc => absurd (by omega) hc)), rfl, fun x hx => rfl, fun x hx => rfl, fun x hx => rfl⟩
          · obtain rfl : a = 4 := i_is hs5 (by decide)
            refine w_aaldv (j := 4) (r := 46) rfl rfl (by decide) (by unfold vp_in; decide) (hR _ fmR_37_4) ?_
            refine w_astore rfl rfl ?_
            refine w_aload rfl rfl ?_
            refine w_getR (r := 37) rfl rfl (hR _ fmR_0_11) ?_
            refine w_iload rfl rfl ?_
            rcases (show c.toInt = 0 ∨ c.toInt = 1 ∨ c.toInt = 2 ∨ c.toInt = 3 ∨ c.toInt = 4 ∨ c.toInt = 5 by omega) with hs6 | hs6 | hs6 | hs6 | hs6 | hs6
            · obtain rfl : c = 0 := i_is hs6 (by decide)
              refine w_aaldv (j := 0) (r := 38) rfl rfl (by decide) (by unfold vp_in; decide) (hR _ fmR_37_0) ?_
              refine w_astore rfl rfl ?_
              refine w_aload rfl rfl ?_
              refine w_callVi (As := []) (le := [some _]) rfl rfl rfl (Nat.le_of_ble_eq_true rfl) (Nat.le_of_ble_eq_true rfl) rfl ?_
              refine w_aload rfl rfl ?_
              refine w_getIv (x := 0) rfl rfl (hI _ fmI_46_0) ?_
              refine w_if_ne rfl (fun h => absurd (by decide) h) (fun _ => ?_)
              refine w_pushI rfl ?_
              refine w_goto rfl ?_
              refine w_iret rfl (Or.inr ⟨rfl, by decide⟩) ?_
              show gW _ _ _ _ _ _ _ _ _ _
              refine w_if_ne rfl (fun _ => ?_) (fun h => absurd h (by decide))
              refine w_pushI rfl ?_
              refine w_iret rfl (Or.inl rfl) ?_
              exact ⟨congrArg (fun v => some (Value.int v)) (show ((-11) : Int32) = f1_shift (4) b (0) g e by have e0 : (4 : Int32).toInt = 4 := rfl; have e1 : (0 : Int32).toInt = 0 := rfl; exact ite_eq_of (fun _ => rfl) (fun hc => absurd (by omega) hc)), rfl, fun x hx => rfl, fun x hx => rfl, fun x hx => rfl⟩
            · obtain rfl : c = 1 := i_is hs6 (by decide)
              refine w_aaldv (j := 1) (r := 40) rfl rfl (by decide) (by unfold vp_in; decide) (hR _ fmR_37_1) ?_
              refine w_astore rfl rfl ?_
              refine w_aload rfl rfl ?_
              refine w_callVi (As := []) (le := [some _]) rfl rfl rfl (Nat.le_of_ble_eq_true rfl) (Nat.le_of_ble_eq_true rfl) rfl ?_
              refine w_aload rfl rfl ?_
              refine w_getIv (x := 0) rfl rfl (hI _ fmI_46_0) ?_
              refine w_if_ne rfl (fun h => absurd (by decide) h) (fun _ => ?_)
              refine w_pushI rfl ?_
              refine w_goto rfl ?_
              refine w_iret rfl (Or.inr ⟨rfl, by decide⟩) ?_
              show gW _ _ _ _ _ _ _ _ _ _
              refine w_if_ne rfl (fun _ => ?_) (fun h => absurd h (by decide))
              refine w_pushI rfl ?_
              refine w_iret rfl (Or.inl rfl) ?_
              exact ⟨congrArg (fun v => some (Value.int v)) (show ((-11) : Int32) = f1_shift (4) b (1) g e by have e0 : (4 : Int32).toInt = 4 := rfl; have e1 : (1 : Int32).toInt = 1 := rfl; exact ite_eq_of (fun _ => rfl) (fun hc => absurd (by omega) hc)), rfl, fun x hx => rfl, fun x hx => rfl, fun x hx => rfl⟩
            · obtain rfl : c = 2 := i_is hs6 (by decide)
              refine w_aaldv (j := 2) (r := 42) rfl rfl (by decide) (by unfold vp_in; decide) (hR _ fmR_37_2) ?_
              refine w_astore rfl rfl ?_
              refine w_aload rfl rfl ?_
              refine w_callVi (As := []) (le := [some _]) rfl rfl rfl (Nat.le_of_ble_eq_true rfl) (Nat.le_of_ble_eq_true rfl) rfl ?_
              refine w_aload rfl rfl ?_
              refine w_getIv (x := 0) rfl rfl (hI _ fmI_46_0) ?_
              refine w_if_ne rfl (fun h => absurd (by decide) h) (fun _ => ?_)
              refine w_pushI rfl ?_
              refine w_goto rfl ?_
              refine w_iret rfl (Or.inr ⟨rfl, by decide⟩) ?_
              show gW _ _ _ _ _ _ _ _ _ _
              refine w_if_ne rfl (fun _ => ?_) (fun h => absurd h (by decide))
              refine w_pushI rfl ?_
              refine w_iret rfl (Or.inl rfl) ?_
              exact ⟨congrArg (fun v => some (Value.int v)) (show ((-11) : Int32) = f1_shift (4) b (2) g e by have e0 : (4 : Int32).toInt = 4 := rfl; have e1 : (2 : Int32).toInt = 2 := rfl; exact ite_eq_of (fun _ => rfl) (fun hc => absurd (by omega) hc)), rfl, fun x hx => rfl, fun x hx => rfl, fun x hx => rfl⟩
            · obtain rfl : c = 3 := i_is hs6 (by decide)
              refine w_aaldv (j := 3) (r := 44) rfl rfl (by decide) (by unfold vp_in; decide) (hR _ fmR_37_3) ?_
              refine w_astore rfl rfl ?_
              refine w_aload rfl rfl ?_
              refine w_callVi (As := []) (le := [some _]) rfl rfl rfl (Nat.le_of_ble_eq_true rfl) (Nat.le_of_ble_eq_true rfl) rfl ?_
              refine w_aload rfl rfl ?_
              refine w_getIv (x := 0) rfl rfl (hI _ fmI_46_0) ?_
              refine w_if_ne rfl (fun h => absurd (by decide) h) (fun _ => ?_)
              refine w_pushI rfl ?_
              refine w_goto rfl ?_
              refine w_iret rfl (Or.inr ⟨rfl, by decide⟩) ?_
              show gW _ _ _ _ _ _ _ _ _ _
              refine w_if_ne rfl (fun _ => ?_) (fun h => absurd h (by decide))
              refine w_pushI rfl ?_
              refine w_iret rfl (Or.inl rfl) ?_
              exact ⟨congrArg (fun v => some (Value.int v)) (show ((-11) : Int32) = f1_shift (4) b (3) g e by have e0 : (4 : Int32).toInt = 4 := rfl; have e1 : (3 : Int32).toInt = 3 := rfl; exact ite_eq_of (fun _ => rfl) (fun hc => absurd (by omega) hc)), rfl, fun x hx => rfl, fun x hx => rfl, fun x hx => rfl⟩
            · obtain rfl : c = 4 := i_is hs6 (by decide)
              refine w_aaldv (j := 4) (r := 46) rfl rfl (by decide) (by unfold vp_in; decide) (hR _ fmR_37_4) ?_
              refine w_astore rfl rfl ?_
              refine w_aload rfl rfl ?_
              refine w_callVi (As := []) (le := [some _]) rfl rfl rfl (Nat.le_of_ble_eq_true rfl) (Nat.le_of_ble_eq_true rfl) rfl ?_
              refine w_aload rfl rfl ?_
              refine w_getIv (x := 0) rfl rfl (hI _ fmI_46_0) ?_
              refine w_if_ne rfl (fun h => absurd (by decide) h) (fun _ => ?_)
              refine w_pushI rfl ?_
              refine w_goto rfl ?_
              refine w_iret rfl (Or.inr ⟨rfl, by decide⟩) ?_
              show gW _ _ _ _ _ _ _ _ _ _
              refine w_if_ne rfl (fun _ => ?_) (fun h => absurd h (by decide))
              refine w_pushI rfl ?_
              refine w_iret rfl (Or.inl rfl) ?_
              exact ⟨congrArg (fun v => some (Value.int v)) (show ((-11) : Int32) = f1_shift (4) b (4) g e by have e0 : (4 : Int32).toInt = 4 := rfl; have e1 : (4 : Int32).toInt = 4 := rfl; exact ite_eq_of (fun _ => rfl) (fun hc => absurd (by omega) hc)), rfl, fun x hx => rfl, fun x hx => rfl, fun x hx => rfl⟩
            · obtain rfl : c = 5 := i_is hs6 (by decide)
              refine w_aaldv (j := 5) (r := 48) rfl rfl (by decide) (by unfold vp_in; decide) (hR _ fmR_37_5) ?_
              refine w_astore rfl rfl ?_
              refine w_aload rfl rfl ?_
              refine w_callVi (As := []) (le := [some _]) rfl rfl rfl (Nat.le_of_ble_eq_true rfl) (Nat.le_of_ble_eq_true rfl) rfl ?_
              refine w_aload rfl rfl ?_
              refine w_getIv (x := 0) rfl rfl (hI _ fmI_46_0) ?_
              refine w_if_ne rfl (fun h => absurd (by decide) h) (fun _ => ?_)
              refine w_pushI rfl ?_
              refine w_goto rfl ?_
              refine w_iret rfl (Or.inr ⟨rfl, by decide⟩) ?_
              show gW _ _ _ _ _ _ _ _ _ _
              refine w_if_ne rfl (fun _ => ?_) (fun h => absurd h (by decide))
              refine w_pushI rfl ?_
              refine w_iret rfl (Or.inl rfl) ?_
              exact ⟨congrArg (fun v => some (Value.int v)) (show ((-11) : Int32) = f1_shift (4) b (5) g e by have e0 : (4 : Int32).toInt = 4 := rfl; have e1 : (5 : Int32).toInt = 5 := rfl; exact ite_eq_of (fun _ => rfl) (fun hc => absurd (by omega) hc)), rfl, fun x hx => rfl, fun x hx => rfl, fun x hx => rfl⟩
          · obtain rfl : a = 5 := i_is hs5 (by decide)
            refine w_aaldv (j := 5) (r := 48) rfl rfl (by decide) (by unfold vp_in; decide) (hR _ fmR_37_5) ?_
            refine w_astore rfl rfl ?_
            refine w_aload rfl rfl ?_
            refine w_getR (r := 37) rfl rfl (hR _ fmR_0_11) ?_
            refine w_iload rfl rfl ?_
            rcases (show c.toInt = 0 ∨ c.toInt = 1 ∨ c.toInt = 2 ∨ c.toInt = 3 ∨ c.toInt = 4 ∨ c.toInt = 5 by omega) with hs6 | hs6 | hs6 | hs6 | hs6 | hs6
            · obtain rfl : c = 0 := i_is hs6 (by decide)
              refine w_aaldv (j := 0) (r := 38) rfl rfl (by decide) (by unfold vp_in; decide) (hR _ fmR_37_0) ?_
              refine w_astore rfl rfl ?_
              refine w_aload rfl rfl ?_
              refine w_callVi (As := []) (le := [some _]) rfl rfl rfl (Nat.le_of_ble_eq_true rfl) (Nat.le_of_ble_eq_true rfl) rfl ?_
              refine w_aload rfl rfl ?_
              refine w_getIv (x := 0) rfl rfl (hI _ fmI_48_0) ?_
              refine w_if_ne rfl (fun h => absurd (by decide) h) (fun _ => ?_)
              refine w_pushI rfl ?_
              refine w_goto rfl ?_
              refine w_iret rfl (Or.inr ⟨rfl, by decide⟩) ?_
              show gW _ _ _ _ _ _ _ _ _ _
              refine w_if_ne rfl (fun _ => ?_) (fun h => absurd h (by decide))
              refine w_pushI rfl ?_
              refine w_iret rfl (Or.inl rfl) ?_
              exact ⟨congrArg (fun v => some (Value.int v)) (show ((-11) : Int32) = f1_shift (5) b (0) g e by have e0 : (5 : Int32).toInt = 5 := rfl; have e1 : (0 : Int32).toInt = 0 := rfl; exact ite_eq_of (fun _ => rfl) (fun hc => absurd (by omega) hc)), rfl, fun x hx => rfl, fun x hx => rfl, fun x hx => rfl⟩
            · obtain rfl : c = 1 := i_is hs6 (by decide)
              refine w_aaldv (j := 1) (r := 40) rfl rfl (by decide) (by unfold vp_in; decide) (hR _ fmR_37_1) ?_
              refine w_astore rfl rfl ?_
              refine w_aload rfl rfl ?_
              refine w_callVi (As := []) (le := [some _]) rfl rfl rfl (Nat.le_of_ble_eq_true rfl) (Nat.le_of_ble_eq_true rfl) rfl ?_
              refine w_aload rfl rfl ?_
              refine w_getIv (x := 0) rfl rfl (hI _ fmI_48_0) ?_
              refine w_if_ne rfl (fun h => absurd (by decide) h) (fun _ => ?_)
              refine w_pushI rfl ?_
              refine w_goto rfl ?_
              refine w_iret rfl (Or.inr ⟨rfl, by decide⟩) ?_
              show gW _ _ _ _ _ _ _ _ _ _
              refine w_if_ne rfl (fun _ => ?_) (fun h => absurd h (by decide))
              refine w_pushI rfl ?_
              refine w_iret rfl (Or.inl rfl) ?_
              exact ⟨congrArg (fun v => some (Value.int v)) (show ((-11) : Int32) = f1_shift (5) b (1) g e by have e0 : (5 : Int32).toInt = 5 := rfl; have e1 : (1 : Int32).toInt = 1 := rfl; exact ite_eq_of (fun _ => rfl) (fun hc => absurd (by omega) hc)), rfl, fun x hx => rfl, fun x hx => rfl, fun x hx => rfl⟩
            · obtain rfl : c = 2 := i_is hs6 (by decide)
              refine w_aaldv (j := 2) (r := 42) rfl rfl (by decide) (by unfold vp_in; decide) (hR _ fmR_37_2) ?_
              refine w_astore rfl rfl ?_
              refine w_aload rfl rfl ?_
              refine w_callVi (As := []) (le := [some _]) rfl rfl rfl (Nat.le_of_ble_eq_true rfl) (Nat.le_of_ble_eq_true rfl) rfl ?_
              refine w_aload rfl rfl ?_
              refine w_getIv (x := 0) rfl rfl (hI _ fmI_48_0) ?_
              refine w_if_ne rfl (fun h => absurd (by decide) h) (fun _ => ?_)
              refine w_pushI rfl ?_
              refine w_goto rfl ?_
              refine w_iret rfl (Or.inr ⟨rfl, by decide⟩) ?_
              show gW _ _ _ _ _ _ _ _ _ _
              refine w_if_ne rfl (fun _ => ?_) (fun h => absurd h (by decide))
              refine w_pushI rfl ?_
              refine w_iret rfl (Or.inl rfl) ?_
              exact ⟨congrArg (fun v => some (Value.int v)) (show ((-11) : Int32) = f1_shift (5) b (2) g e by have e0 : (5 : Int32).toInt = 5 := rfl; have e1 : (2 : Int32).toInt = 2 := rfl; exact ite_eq_of (fun _ => rfl) (fun hc => absurd (by omega) hc)), rfl, fun x hx => rfl, fun x hx => rfl, fun x hx => rfl⟩
            · obtain rfl : c = 3 := i_is hs6 (by decide)
              refine w_aaldv (j := 3) (r := 44) rfl rfl (by decide) (by unfold vp_in; decide) (hR _ fmR_37_3) ?_
              refine w_astore rfl rfl ?_
              refine w_aload rfl rfl ?_
              refine w_callVi (As := []) (le := [some _]) rfl rfl rfl (Nat.le_of_ble_eq_true rfl) (Nat.le_of_ble_eq_true rfl) rfl ?_
              refine w_aload rfl rfl ?_
              refine w_getIv (x := 0) rfl rfl (hI _ fmI_48_0) ?_
              refine w_if_ne rfl (fun h => absurd (by decide) h) (fun _ => ?_)
              refine w_pushI rfl ?_
              refine w_goto rfl ?_
              refine w_iret rfl (Or.inr ⟨rfl, by decide⟩) ?_
              show gW _ _ _ _ _ _ _ _ _ _
              refine w_if_ne rfl (fun _ => ?_) (fun h => absurd h (by decide))
              refine w_pushI rfl ?_
              refine w_iret rfl (Or.inl rfl) ?_
              exact ⟨congrArg (fun v => some (Value.int v)) (show ((-11) : Int32) = f1_shift (5) b (3) g e by have e0 : (5 : Int32).toInt = 5 := rfl; have e1 : (3 : Int32).toInt = 3 := rfl; exact ite_eq_of (fun _ => rfl) (fun hc => absurd (by omega) hc)), rfl, fun x hx => rfl, fun x hx => rfl, fun x hx => rfl⟩
            · obtain rfl : c = 4 := i_is hs6 (by decide)
              refine w_aaldv (j := 4) (r := 46) rfl rfl (by decide) (by unfold vp_in; decide) (hR _ fmR_37_4) ?_
              refine w_astore rfl rfl ?_
              refine w_aload rfl rfl ?_
              refine w_callVi (As := []) (le := [some _]) rfl rfl rfl (Nat.le_of_ble_eq_true rfl) (Nat.le_of_ble_eq_true rfl) rfl ?_
              refine w_aload rfl rfl ?_
              refine w_getIv (x := 0) rfl rfl (hI _ fmI_48_0) ?_
              refine w_if_ne rfl (fun h => absurd (by decide) h) (fun _ => ?_)
              refine w_pushI rfl ?_
              refine w_goto rfl ?_
              refine w_iret rfl (Or.inr ⟨rfl, by decide⟩) ?_
              show gW _ _ _ _ _ _ _ _ _ _
              refine w_if_ne rfl (fun _ => ?_) (fun h => absurd h (by decide))
              refine w_pushI rfl ?_
              refine w_iret rfl (Or.inl rfl) ?_
              exact ⟨congrArg (fun v => some (Value.int v)) (show ((-11) : Int32) = f1_shift (5) b (4) g e by have e0 : (5 : Int32).toInt = 5 := rfl; have e1 : (4 : Int32).toInt = 4 := rfl; exact ite_eq_of (fun _ => rfl) (fun hc => absurd (by omega) hc)), rfl, fun x hx => rfl, fun x hx => rfl, fun x hx => rfl⟩
            · obtain rfl : c = 5 := i_is hs6 (by decide)
              refine w_aaldv (j := 5) (r := 48) rfl rfl (by decide) (by unfold vp_in; decide) (hR _ fmR_37_5) ?_
              refine w_astore rfl rfl ?_
              refine w_aload rfl rfl ?_
              refine w_callVi (As := []) (le := [some _]) rfl rfl rfl (Nat.le_of_ble_eq_true rfl) (Nat.le_of_ble_eq_true rfl) rfl ?_
              refine w_aload rfl rfl ?_
              refine w_getIv (x := 0) rfl rfl (hI _ fmI_48_0) ?_
              refine w_if_ne rfl (fun h => absurd (by decide) h) (fun _ => ?_)
              refine w_pushI rfl ?_
              refine w_goto rfl ?_
              refine w_iret rfl (Or.inr ⟨rfl, by decide⟩) ?_
              show gW _ _ _ _ _ _ _ _ _ _
              refine w_if_ne rfl (fun _ => ?_) (fun h => absurd h (by decide))
              refine w_pushI rfl ?_
              refine w_iret rfl (Or.inl rfl) ?_
              exact ⟨congrArg (fun v => some (Value.int v)) (show ((-11) : Int32) = f1_shift (5) b (5) g e by have e0 : (5 : Int32).toInt = 5 := rfl; have e1 : (5 : Int32).toInt = 5 := rfl; exact ite_eq_of (fun _ => rfl) (fun hc => absurd (by omega) hc)), rfl, fun x hx => rfl, fun x hx => rfl, fun x hx => rfl⟩
set_option maxHeartbeats 40000000 in
set_option maxRecDepth 100000 in
theorem a2_shift {X : Nat × (Nat → Int32)} {d : Nat} {I : Nat → Nat → Int32} {L : Nat → Nat → Int64} {R : Nat → Nat → Option Nat} (hI : ∀ q ∈ gFlI, 50 ≤ q.1 → I q.1 q.2.1 = q.2.2) (hL : ∀ q ∈ gFlL, 50 ≤ q.1 → L q.1 q.2.1 = q.2.2) (hR : ∀ q ∈ gFlR, 50 ≤ q.1 → R q.1 q.2.1 = some q.2.2) (a : Int32) (b : Int32) (c : Int32) (g : Int32) (e : Int32) : gW X (d + 12) 254 0 0 0 (gEn 254 [.ref 50, .int a, .int b, .int c, .int g, .int e]) [] (gK 87, I, L, R) (fun r _ => r = some (.int (f1_shift a b c g e))) := by
  show gW _ _ _ _ _ _ [some (.ref 50), some (.int a), some (.int b), some (.int c), some (.int g), some (.int e), none] _ _ _
  refine w_iload rfl rfl ?_
  refine w_callSi (As := [_]) (le := [some _]) rfl rfl (Nat.le_of_ble_eq_true rfl) (Nat.le_of_ble_eq_true rfl) rfl ?_
  refine w_iload rfl rfl ?_
  refine w_pushI rfl ?_
  refine w_pushI rfl ?_
  refine w_callSi (As := [_, _, _]) (le := [some _, some _, some _]) rfl rfl (Nat.le_of_ble_eq_true rfl) (Nat.le_of_ble_eq_true rfl) rfl ?_
  refine w_iload rfl rfl ?_
  refine w_iload rfl rfl ?_
  refine w_icmp_ltZ (b := 0) rfl rfl (by decide) (fun h1 => ?_) (fun h1 => ?_)
  · refine w_pushI rfl ?_
    refine w_iret rfl (Or.inr ⟨rfl, by decide⟩) ?_
    show gW _ _ _ _ _ _ _ _ _ _
    refine w_iret rfl (Or.inr ⟨rfl, by decide⟩) ?_
    show gW _ _ _ _ _ _ _ _ _ _
    refine w_if_eq rfl (fun _ => ?_) (fun h => absurd (by decide) h)
    refine w_pushI rfl ?_
    refine w_iret rfl (Or.inl rfl) ?_
    exact congrArg (fun v => some (Value.int v)) (show ((-1) : Int32) = f1_shift a b c g e by exact ite_eq_of (fun hc => absurd hc (by omega)) (fun _ => rfl))
  · refine w_iload rfl rfl ?_
    refine w_iload rfl rfl ?_
    refine w_icmp_gtZ (b := 5) rfl rfl (by decide) (fun h2 => ?_) (fun h2 => ?_)
    · refine w_pushI rfl ?_
      refine w_iret rfl (Or.inr ⟨rfl, by decide⟩) ?_
      show gW _ _ _ _ _ _ _ _ _ _
      refine w_iret rfl (Or.inr ⟨rfl, by decide⟩) ?_
      show gW _ _ _ _ _ _ _ _ _ _
      refine w_if_eq rfl (fun _ => ?_) (fun h => absurd (by decide) h)
      refine w_pushI rfl ?_
      refine w_iret rfl (Or.inl rfl) ?_
      exact congrArg (fun v => some (Value.int v)) (show ((-1) : Int32) = f1_shift a b c g e by exact ite_eq_of (fun hc => absurd hc (by omega)) (fun _ => rfl))
    · refine w_pushI rfl ?_
      refine w_goto rfl ?_
      refine w_iret rfl (Or.inr ⟨rfl, by decide⟩) ?_
      show gW _ _ _ _ _ _ _ _ _ _
      refine w_iret rfl (Or.inr ⟨rfl, by decide⟩) ?_
      show gW _ _ _ _ _ _ _ _ _ _
      refine w_if_eq rfl (fun h => absurd h (by decide)) (fun _ => ?_)
      refine w_iload rfl rfl ?_
      refine w_callSi (As := [_]) (le := [some _]) rfl rfl (Nat.le_of_ble_eq_true rfl) (Nat.le_of_ble_eq_true rfl) rfl ?_
      refine w_iload rfl rfl ?_
      refine w_pushI rfl ?_
      refine w_pushI rfl ?_
      refine w_callSi (As := [_, _, _]) (le := [some _, some _, some _]) rfl rfl (Nat.le_of_ble_eq_true rfl) (Nat.le_of_ble_eq_true rfl) rfl ?_
      refine w_iload rfl rfl ?_
      refine w_iload rfl rfl ?_
      refine w_icmp_ltZ (b := 0) rfl rfl (by decide) (fun h3 => ?_) (fun h3 => ?_)
      · refine w_pushI rfl ?_
        refine w_iret rfl (Or.inr ⟨rfl, by decide⟩) ?_
        show gW _ _ _ _ _ _ _ _ _ _
        refine w_iret rfl (Or.inr ⟨rfl, by decide⟩) ?_
        show gW _ _ _ _ _ _ _ _ _ _
        refine w_if_ne rfl (fun h => absurd (by decide) h) (fun _ => ?_)
        refine w_pushI rfl ?_
        refine w_iret rfl (Or.inl rfl) ?_
        exact congrArg (fun v => some (Value.int v)) (show ((-1) : Int32) = f1_shift a b c g e by exact ite_eq_of (fun hc => absurd hc (by omega)) (fun _ => rfl))
      · refine w_iload rfl rfl ?_
        refine w_iload rfl rfl ?_
        refine w_icmp_gtZ (b := 5) rfl rfl (by decide) (fun h4 => ?_) (fun h4 => ?_)
        · refine w_pushI rfl ?_
          refine w_iret rfl (Or.inr ⟨rfl, by decide⟩) ?_
          show gW _ _ _ _ _ _ _ _ _ _
          refine w_iret rfl (Or.inr ⟨rfl, by decide⟩) ?_
          show gW _ _ _ _ _ _ _ _ _ _
          refine w_if_ne rfl (fun h => absurd (by decide) h) (fun _ => ?_)
          refine w_pushI rfl ?_
          refine w_iret rfl (Or.inl rfl) ?_
          exact congrArg (fun v => some (Value.int v)) (show ((-1) : Int32) = f1_shift a b c g e by exact ite_eq_of (fun hc => absurd hc (by omega)) (fun _ => rfl))
        · refine w_pushI rfl ?_
          refine w_goto rfl ?_
          refine w_iret rfl (Or.inr ⟨rfl, by decide⟩) ?_
          show gW _ _ _ _ _ _ _ _ _ _
          refine w_iret rfl (Or.inr ⟨rfl, by decide⟩) ?_
          show gW _ _ _ _ _ _ _ _ _ _
          refine w_if_ne rfl (fun _ => ?_) (fun h => absurd h (by decide))
          refine w_aload rfl rfl ?_
          refine w_getR (r := 83) rfl rfl (hR _ fmR_50_58 (by decide)) ?_
          refine w_iload rfl rfl ?_
          rcases (show a.toInt = 0 ∨ a.toInt = 1 ∨ a.toInt = 2 ∨ a.toInt = 3 ∨ a.toInt = 4 ∨ a.toInt = 5 by omega) with hs5 | hs5 | hs5 | hs5 | hs5 | hs5
          · obtain rfl : a = 0 := i_is hs5 (by decide)
            refine w_ialdv (j := 0) (x := (-1)) rfl rfl (by decide) (by unfold vp_in; decide) (hI _ fmI_83_0 (by decide)) ?_
            refine w_pushI rfl ?_
            refine w_icmp_eq rfl (fun _ => ?_) (fun h => absurd (by decide) h)
            refine w_pushI rfl ?_
            refine w_iret rfl (Or.inl rfl) ?_
            exact congrArg (fun v => some (Value.int v)) (show ((-11) : Int32) = f1_shift (0) b c g e by have e0 : (0 : Int32).toInt = 0 := rfl; exact ite_eq_of (fun _ => rfl) (fun hc => absurd (by omega) hc))
          · obtain rfl : a = 1 := i_is hs5 (by decide)
            refine w_ialdv (j := 1) (x := (-1)) rfl rfl (by decide) (by unfold vp_in; decide) (hI _ fmI_83_1 (by decide)) ?_
            refine w_pushI rfl ?_
            refine w_icmp_eq rfl (fun _ => ?_) (fun h => absurd (by decide) h)
            refine w_pushI rfl ?_
            refine w_iret rfl (Or.inl rfl) ?_
            exact congrArg (fun v => some (Value.int v)) (show ((-11) : Int32) = f1_shift (1) b c g e by have e0 : (1 : Int32).toInt = 1 := rfl; exact ite_eq_of (fun _ => rfl) (fun hc => absurd (by omega) hc))
          · obtain rfl : a = 2 := i_is hs5 (by decide)
            refine w_ialdv (j := 2) (x := (-1)) rfl rfl (by decide) (by unfold vp_in; decide) (hI _ fmI_83_2 (by decide)) ?_
            refine w_pushI rfl ?_
            refine w_icmp_eq rfl (fun _ => ?_) (fun h => absurd (by decide) h)
            refine w_pushI rfl ?_
            refine w_iret rfl (Or.inl rfl) ?_
            exact congrArg (fun v => some (Value.int v)) (show ((-11) : Int32) = f1_shift (2) b c g e by have e0 : (2 : Int32).toInt = 2 := rfl; exact ite_eq_of (fun _ => rfl) (fun hc => absurd (by omega) hc))
          · obtain rfl : a = 3 := i_is hs5 (by decide)
            refine w_ialdv (j := 3) (x := (-1)) rfl rfl (by decide) (by unfold vp_in; decide) (hI _ fmI_83_3 (by decide)) ?_
            refine w_pushI rfl ?_
            refine w_icmp_eq rfl (fun _ => ?_) (fun h => absurd (by decide) h)
            refine w_pushI rfl ?_
            refine w_iret rfl (Or.inl rfl) ?_
            exact congrArg (fun v => some (Value.int v)) (show ((-11) : Int32) = f1_shift (3) b c g e by have e0 : (3 : Int32).toInt = 3 := rfl; exact ite_eq_of (fun _ => rfl) (fun hc => absurd (by omega) hc))
          · obtain rfl : a = 4 := i_is hs5 (by decide)
            refine w_ialdv (j := 4) (x := (-1)) rfl rfl (by decide) (by unfold vp_in; decide) (hI _ fmI_83_4 (by decide)) ?_
            refine w_pushI rfl ?_
            refine w_icmp_eq rfl (fun _ => ?_) (fun h => absurd (by decide) h)
            refine w_pushI rfl ?_
            refine w_iret rfl (Or.inl rfl) ?_
            exact congrArg (fun v => some (Value.int v)) (show ((-11) : Int32) = f1_shift (4) b c g e by have e0 : (4 : Int32).toInt = 4 := rfl; exact ite_eq_of (fun _ => rfl) (fun hc => absurd (by omega) hc))
          · obtain rfl : a = 5 := i_is hs5 (by decide)
            refine w_ialdv (j := 5) (x := (-1)) rfl rfl (by decide) (by unfold vp_in; decide) (hI _ fmI_83_5 (by decide)) ?_
            refine w_pushI rfl ?_
            refine w_icmp_eq rfl (fun _ => ?_) (fun h => absurd (by decide) h)
            refine w_pushI rfl ?_
            refine w_iret rfl (Or.inl rfl) ?_
            exact congrArg (fun v => some (Value.int v)) (show ((-11) : Int32) = f1_shift (5) b c g e by have e0 : (5 : Int32).toInt = 5 := rfl; exact ite_eq_of (fun _ => rfl) (fun hc => absurd (by omega) hc))
set_option maxHeartbeats 40000000 in
set_option maxRecDepth 100000 in
theorem a1_taken {X : Nat × (Nat → Int32)} {d : Nat} {I : Nat → Nat → Int32} {L : Nat → Nat → Int64} {R : Nat → Nat → Option Nat} (hI : ∀ q ∈ gFlI, I q.1 q.2.1 = q.2.2) (hL : ∀ q ∈ gFlL, L q.1 q.2.1 = q.2.2) (hR : ∀ q ∈ gFlR, R q.1 q.2.1 = some q.2.2) (a : Int32) (b : Int32) : gW X (d + 12) 141 0 0 0 (gEn 141 [.ref 0, .int a, .int b]) [] (gK 87, I, L, R) (fun r σ => r = some (.int (f1_taken a b)) ∧ gFr σ I L R) := by
  show gW _ _ _ _ _ _ [some (.ref 0), some (.int a), some (.int b), none, none] _ _ _
  refine w_iload rfl rfl ?_
  refine w_callSi (As := [_]) (le := [some _]) rfl rfl (Nat.le_of_ble_eq_true rfl) (Nat.le_of_ble_eq_true rfl) rfl ?_
  refine w_iload rfl rfl ?_
  refine w_if_ltZ rfl rfl (fun h1 => ?_) (fun h1 => ?_)
  · refine w_pushI rfl ?_
    refine w_iret rfl (Or.inr ⟨rfl, by decide⟩) ?_
    show gW _ _ _ _ _ _ _ _ _ _
    refine w_if_eq rfl (fun _ => ?_) (fun h => absurd (by decide) h)
    refine w_pushI rfl ?_
    refine w_iret rfl (Or.inl rfl) ?_
    exact ⟨congrArg (fun v => some (Value.int v)) (show ((-1) : Int32) = f1_taken a b by exact ite_eq_of (fun hc => absurd hc (by omega)) (fun _ => rfl)), rfl, fun x hx => rfl, fun x hx => rfl, fun x hx => rfl⟩
  · refine w_iload rfl rfl ?_
    refine w_pushI rfl ?_
    refine w_icmp_geZ (b := 6) rfl rfl (by decide) (fun h2 => ?_) (fun h2 => ?_)
    · refine w_pushI rfl ?_
      refine w_iret rfl (Or.inr ⟨rfl, by decide⟩) ?_
      show gW _ _ _ _ _ _ _ _ _ _
      refine w_if_eq rfl (fun _ => ?_) (fun h => absurd (by decide) h)
      refine w_pushI rfl ?_
      refine w_iret rfl (Or.inl rfl) ?_
      exact ⟨congrArg (fun v => some (Value.int v)) (show ((-1) : Int32) = f1_taken a b by exact ite_eq_of (fun hc => absurd hc (by omega)) (fun _ => rfl)), rfl, fun x hx => rfl, fun x hx => rfl, fun x hx => rfl⟩
    · refine w_pushI rfl ?_
      refine w_goto rfl ?_
      refine w_iret rfl (Or.inr ⟨rfl, by decide⟩) ?_
      show gW _ _ _ _ _ _ _ _ _ _
      refine w_if_eq rfl (fun h => absurd h (by decide)) (fun _ => ?_)
      refine w_iload rfl rfl ?_
      refine w_callSi (As := [_]) (le := [some _]) rfl rfl (Nat.le_of_ble_eq_true rfl) (Nat.le_of_ble_eq_true rfl) rfl ?_
      refine w_iload rfl rfl ?_
      refine w_if_ltZ rfl rfl (fun h3 => ?_) (fun h3 => ?_)
      · refine w_pushI rfl ?_
        refine w_iret rfl (Or.inr ⟨rfl, by decide⟩) ?_
        show gW _ _ _ _ _ _ _ _ _ _
        refine w_if_ne rfl (fun h => absurd (by decide) h) (fun _ => ?_)
        refine w_pushI rfl ?_
        refine w_iret rfl (Or.inl rfl) ?_
        exact ⟨congrArg (fun v => some (Value.int v)) (show ((-1) : Int32) = f1_taken a b by exact ite_eq_of (fun hc => absurd hc (by omega)) (fun _ => rfl)), rfl, fun x hx => rfl, fun x hx => rfl, fun x hx => rfl⟩
      · refine w_iload rfl rfl ?_
        refine w_pushI rfl ?_
        refine w_icmp_geZ (b := 8) rfl rfl (by decide) (fun h4 => ?_) (fun h4 => ?_)
        · refine w_pushI rfl ?_
          refine w_iret rfl (Or.inr ⟨rfl, by decide⟩) ?_
          show gW _ _ _ _ _ _ _ _ _ _
          refine w_if_ne rfl (fun h => absurd (by decide) h) (fun _ => ?_)
          refine w_pushI rfl ?_
          refine w_iret rfl (Or.inl rfl) ?_
          exact ⟨congrArg (fun v => some (Value.int v)) (show ((-1) : Int32) = f1_taken a b by exact ite_eq_of (fun hc => absurd hc (by omega)) (fun _ => rfl)), rfl, fun x hx => rfl, fun x hx => rfl, fun x hx => rfl⟩
        · refine w_pushI rfl ?_
          refine w_goto rfl ?_
          refine w_iret rfl (Or.inr ⟨rfl, by decide⟩) ?_
          show gW _ _ _ _ _ _ _ _ _ _
          refine w_if_ne rfl (fun _ => ?_) (fun h => absurd h (by decide))
          refine w_aload rfl rfl ?_
          refine w_getR (r := 37) rfl rfl (hR _ fmR_0_11) ?_
          refine w_iload rfl rfl ?_
          rcases (show a.toInt = 0 ∨ a.toInt = 1 ∨ a.toInt = 2 ∨ a.toInt = 3 ∨ a.toInt = 4 ∨ a.toInt = 5 by omega) with hs5 | hs5 | hs5 | hs5 | hs5 | hs5
          · obtain rfl : a = 0 := i_is hs5 (by decide)
            refine w_aaldv (j := 0) (r := 38) rfl rfl (by decide) (by unfold vp_in; decide) (hR _ fmR_37_0) ?_
            refine w_astore rfl rfl ?_
            refine w_aload rfl rfl ?_
            refine w_callVi (As := []) (le := [some _]) rfl rfl rfl (Nat.le_of_ble_eq_true rfl) (Nat.le_of_ble_eq_true rfl) rfl ?_
            refine w_aload rfl rfl ?_
            refine w_getIv (x := 0) rfl rfl (hI _ fmI_38_0) ?_
            refine w_if_ne rfl (fun h => absurd (by decide) h) (fun _ => ?_)
            refine w_pushI rfl ?_
            refine w_goto rfl ?_
            refine w_iret rfl (Or.inr ⟨rfl, by decide⟩) ?_
            show gW _ _ _ _ _ _ _ _ _ _
            refine w_if_eq rfl (fun h => absurd h (by decide)) (fun _ => ?_)
            refine w_pushI rfl ?_
            refine w_iret rfl (Or.inl rfl) ?_
            exact ⟨congrArg (fun v => some (Value.int v)) (show ((-11) : Int32) = f1_taken (0) b by have e0 : (0 : Int32).toInt = 0 := rfl; exact ite_eq_of (fun _ => rfl) (fun hc => absurd (by omega) hc)), rfl, fun x hx => rfl, fun x hx => rfl, fun x hx => rfl⟩
          · obtain rfl : a = 1 := i_is hs5 (by decide)
            refine w_aaldv (j := 1) (r := 40) rfl rfl (by decide) (by unfold vp_in; decide) (hR _ fmR_37_1) ?_
            refine w_astore rfl rfl ?_
            refine w_aload rfl rfl ?_
            refine w_callVi (As := []) (le := [some _]) rfl rfl rfl (Nat.le_of_ble_eq_true rfl) (Nat.le_of_ble_eq_true rfl) rfl ?_
            refine w_aload rfl rfl ?_
            refine w_getIv (x := 0) rfl rfl (hI _ fmI_40_0) ?_
            refine w_if_ne rfl (fun h => absurd (by decide) h) (fun _ => ?_)
            refine w_pushI rfl ?_
            refine w_goto rfl ?_
            refine w_iret rfl (Or.inr ⟨rfl, by decide⟩) ?_
            show gW _ _ _ _ _ _ _ _ _ _
            refine w_if_eq rfl (fun h => absurd h (by decide)) (fun _ => ?_)
            refine w_pushI rfl ?_
            refine w_iret rfl (Or.inl rfl) ?_
            exact ⟨congrArg (fun v => some (Value.int v)) (show ((-11) : Int32) = f1_taken (1) b by have e0 : (1 : Int32).toInt = 1 := rfl; exact ite_eq_of (fun _ => rfl) (fun hc => absurd (by omega) hc)), rfl, fun x hx => rfl, fun x hx => rfl, fun x hx => rfl⟩
          · obtain rfl : a = 2 := i_is hs5 (by decide)
            refine w_aaldv (j := 2) (r := 42) rfl rfl (by decide) (by unfold vp_in; decide) (hR _ fmR_37_2) ?_
            refine w_astore rfl rfl ?_
            refine w_aload rfl rfl ?_
            refine w_callVi (As := []) (le := [some _]) rfl rfl rfl (Nat.le_of_ble_eq_true rfl) (Nat.le_of_ble_eq_true rfl) rfl ?_
            refine w_aload rfl rfl ?_
            refine w_getIv (x := 0) rfl rfl (hI _ fmI_42_0) ?_
            refine w_if_ne rfl (fun h => absurd (by decide) h) (fun _ => ?_)
            refine w_pushI rfl ?_
            refine w_goto rfl ?_
            refine w_iret rfl (Or.inr ⟨rfl, by decide⟩) ?_
            show gW _ _ _ _ _ _ _ _ _ _
            refine w_if_eq rfl (fun h => absurd h (by decide)) (fun _ => ?_)
            refine w_pushI rfl ?_
            refine w_iret rfl (Or.inl rfl) ?_
            exact ⟨congrArg (fun v => some (Value.int v)) (show ((-11) : Int32) = f1_taken (2) b by have e0 : (2 : Int32).toInt = 2 := rfl; exact ite_eq_of (fun _ => rfl) (fun hc => absurd (by omega) hc)), rfl, fun x hx => rfl, fun x hx => rfl, fun x hx => rfl⟩
          · obtain rfl : a = 3 := i_is hs5 (by decide)
            refine w_aaldv (j := 3) (r := 44) rfl rfl (by decide) (by unfold vp_in; decide) (hR _ fmR_37_3) ?_
            refine w_astore rfl rfl ?_
            refine w_aload rfl rfl ?_
            refine w_callVi (As := []) (le := [some _]) rfl rfl rfl (Nat.le_of_ble_eq_true rfl) (Nat.le_of_ble_eq_true rfl) rfl ?_
            refine w_aload rfl rfl ?_
            refine w_getIv (x := 0) rfl rfl (hI _ fmI_44_0) ?_
            refine w_if_ne rfl (fun h => absurd (by decide) h) (fun _ => ?_)
            refine w_pushI rfl ?_
            refine w_goto rfl ?_
            refine w_iret rfl (Or.inr ⟨rfl, by decide⟩) ?_
            show gW _ _ _ _ _ _ _ _ _ _
            refine w_if_eq rfl (fun h => absurd h (by decide)) (fun _ => ?_)
            refine w_pushI rfl ?_
            refine w_iret rfl (Or.inl rfl) ?_
            exact ⟨congrArg (fun v => some (Value.int v)) (show ((-11) : Int32) = f1_taken (3) b by have e0 : (3 : Int32).toInt = 3 := rfl; exact ite_eq_of (fun _ => rfl) (fun hc => absurd (by omega) hc)), rfl, fun x hx => rfl, fun x hx => rfl, fun x hx => rfl⟩
          · obtain rfl : a = 4 := i_is hs5 (by decide)
            refine w_aaldv (j := 4) (r := 46) rfl rfl (by decide) (by unfold vp_in; decide) (hR _ fmR_37_4) ?_
            refine w_astore rfl rfl ?_
            refine w_aload rfl rfl ?_
            refine w_callVi (As := []) (le := [some _]) rfl rfl rfl (Nat.le_of_ble_eq_true rfl) (Nat.le_of_ble_eq_true rfl) rfl ?_
            refine w_aload rfl rfl ?_
            refine w_getIv (x := 0) rfl rfl (hI _ fmI_46_0) ?_
            refine w_if_ne rfl (fun h => absurd (by decide) h) (fun _ => ?_)
            refine w_pushI rfl ?_
            refine w_goto rfl ?_
            refine w_iret rfl (Or.inr ⟨rfl, by decide⟩) ?_
            show gW _ _ _ _ _ _ _ _ _ _
            refine w_if_eq rfl (fun h => absurd h (by decide)) (fun _ => ?_)
            refine w_pushI rfl ?_
            refine w_iret rfl (Or.inl rfl) ?_
            exact ⟨congrArg (fun v => some (Value.int v)) (show ((-11) : Int32) = f1_taken (4) b by have e0 : (4 : Int32).toInt = 4 := rfl; exact ite_eq_of (fun _ => rfl) (fun hc => absurd (by omega) hc)), rfl, fun x hx => rfl, fun x hx => rfl, fun x hx => rfl⟩
          · obtain rfl : a = 5 := i_is hs5 (by decide)
            refine w_aaldv (j := 5) (r := 48) rfl rfl (by decide) (by unfold vp_in; decide) (hR _ fmR_37_5) ?_
            refine w_astore rfl rfl ?_
            refine w_aload rfl rfl ?_
            refine w_callVi (As := []) (le := [some _]) rfl rfl rfl (Nat.le_of_ble_eq_true rfl) (Nat.le_of_ble_eq_true rfl) rfl ?_
            refine w_aload rfl rfl ?_
            refine w_getIv (x := 0) rfl rfl (hI _ fmI_48_0) ?_
            refine w_if_ne rfl (fun h => absurd (by decide) h) (fun _ => ?_)
            refine w_pushI rfl ?_
            refine w_goto rfl ?_
            refine w_iret rfl (Or.inr ⟨rfl, by decide⟩) ?_
            show gW _ _ _ _ _ _ _ _ _ _
            refine w_if_eq rfl (fun h => absurd h (by decide)) (fun _ => ?_)
            refine w_pushI rfl ?_
            refine w_iret rfl (Or.inl rfl) ?_
            exact ⟨congrArg (fun v => some (Value.int v)) (show ((-11) : Int32) = f1_taken (5) b by have e0 : (5 : Int32).toInt = 5 := rfl; exact ite_eq_of (fun _ => rfl) (fun hc => absurd (by omega) hc)), rfl, fun x hx => rfl, fun x hx => rfl, fun x hx => rfl⟩
set_option maxHeartbeats 40000000 in
set_option maxRecDepth 100000 in
theorem a2_taken {X : Nat × (Nat → Int32)} {d : Nat} {I : Nat → Nat → Int32} {L : Nat → Nat → Int64} {R : Nat → Nat → Option Nat} (hI : ∀ q ∈ gFlI, 50 ≤ q.1 → I q.1 q.2.1 = q.2.2) (hL : ∀ q ∈ gFlL, 50 ≤ q.1 → L q.1 q.2.1 = q.2.2) (hR : ∀ q ∈ gFlR, 50 ≤ q.1 → R q.1 q.2.1 = some q.2.2) (a : Int32) (b : Int32) : gW X (d + 12) 255 0 0 0 (gEn 255 [.ref 50, .int a, .int b]) [] (gK 87, I, L, R) (fun r _ => r = some (.int (f1_taken a b))) := by
  show gW _ _ _ _ _ _ [some (.ref 50), some (.int a), some (.int b)] _ _ _
  refine w_iload rfl rfl ?_
  refine w_callSi (As := [_]) (le := [some _]) rfl rfl (Nat.le_of_ble_eq_true rfl) (Nat.le_of_ble_eq_true rfl) rfl ?_
  refine w_iload rfl rfl ?_
  refine w_pushI rfl ?_
  refine w_pushI rfl ?_
  refine w_callSi (As := [_, _, _]) (le := [some _, some _, some _]) rfl rfl (Nat.le_of_ble_eq_true rfl) (Nat.le_of_ble_eq_true rfl) rfl ?_
  refine w_iload rfl rfl ?_
  refine w_iload rfl rfl ?_
  refine w_icmp_ltZ (b := 0) rfl rfl (by decide) (fun h1 => ?_) (fun h1 => ?_)
  · refine w_pushI rfl ?_
    refine w_iret rfl (Or.inr ⟨rfl, by decide⟩) ?_
    show gW _ _ _ _ _ _ _ _ _ _
    refine w_iret rfl (Or.inr ⟨rfl, by decide⟩) ?_
    show gW _ _ _ _ _ _ _ _ _ _
    refine w_if_eq rfl (fun _ => ?_) (fun h => absurd (by decide) h)
    refine w_pushI rfl ?_
    refine w_iret rfl (Or.inl rfl) ?_
    exact congrArg (fun v => some (Value.int v)) (show ((-1) : Int32) = f1_taken a b by exact ite_eq_of (fun hc => absurd hc (by omega)) (fun _ => rfl))
  · refine w_iload rfl rfl ?_
    refine w_iload rfl rfl ?_
    refine w_icmp_gtZ (b := 5) rfl rfl (by decide) (fun h2 => ?_) (fun h2 => ?_)
    · refine w_pushI rfl ?_
      refine w_iret rfl (Or.inr ⟨rfl, by decide⟩) ?_
      show gW _ _ _ _ _ _ _ _ _ _
      refine w_iret rfl (Or.inr ⟨rfl, by decide⟩) ?_
      show gW _ _ _ _ _ _ _ _ _ _
      refine w_if_eq rfl (fun _ => ?_) (fun h => absurd (by decide) h)
      refine w_pushI rfl ?_
      refine w_iret rfl (Or.inl rfl) ?_
      exact congrArg (fun v => some (Value.int v)) (show ((-1) : Int32) = f1_taken a b by exact ite_eq_of (fun hc => absurd hc (by omega)) (fun _ => rfl))
    · refine w_pushI rfl ?_
      refine w_goto rfl ?_
      refine w_iret rfl (Or.inr ⟨rfl, by decide⟩) ?_
      show gW _ _ _ _ _ _ _ _ _ _
      refine w_iret rfl (Or.inr ⟨rfl, by decide⟩) ?_
      show gW _ _ _ _ _ _ _ _ _ _
      refine w_if_eq rfl (fun h => absurd h (by decide)) (fun _ => ?_)
      refine w_iload rfl rfl ?_
      refine w_pushI rfl ?_
      refine w_pushI rfl ?_
      refine w_callSi (As := [_, _, _]) (le := [some _, some _, some _]) rfl rfl (Nat.le_of_ble_eq_true rfl) (Nat.le_of_ble_eq_true rfl) rfl ?_
      refine w_iload rfl rfl ?_
      refine w_iload rfl rfl ?_
      refine w_icmp_ltZ (b := 0) rfl rfl (by decide) (fun h3 => ?_) (fun h3 => ?_)
      · refine w_pushI rfl ?_
        refine w_iret rfl (Or.inr ⟨rfl, by decide⟩) ?_
        show gW _ _ _ _ _ _ _ _ _ _
        refine w_if_ne rfl (fun h => absurd (by decide) h) (fun _ => ?_)
        refine w_pushI rfl ?_
        refine w_iret rfl (Or.inl rfl) ?_
        exact congrArg (fun v => some (Value.int v)) (show ((-1) : Int32) = f1_taken a b by exact ite_eq_of (fun hc => absurd hc (by omega)) (fun _ => rfl))
      · refine w_iload rfl rfl ?_
        refine w_iload rfl rfl ?_
        refine w_icmp_gtZ (b := 7) rfl rfl (by decide) (fun h4 => ?_) (fun h4 => ?_)
        · refine w_pushI rfl ?_
          refine w_iret rfl (Or.inr ⟨rfl, by decide⟩) ?_
          show gW _ _ _ _ _ _ _ _ _ _
          refine w_if_ne rfl (fun h => absurd (by decide) h) (fun _ => ?_)
          refine w_pushI rfl ?_
          refine w_iret rfl (Or.inl rfl) ?_
          exact congrArg (fun v => some (Value.int v)) (show ((-1) : Int32) = f1_taken a b by exact ite_eq_of (fun hc => absurd hc (by omega)) (fun _ => rfl))
        · refine w_pushI rfl ?_
          refine w_goto rfl ?_
          refine w_iret rfl (Or.inr ⟨rfl, by decide⟩) ?_
          show gW _ _ _ _ _ _ _ _ _ _
          refine w_if_ne rfl (fun _ => ?_) (fun h => absurd h (by decide))
          refine w_aload rfl rfl ?_
          refine w_getR (r := 83) rfl rfl (hR _ fmR_50_58 (by decide)) ?_
          refine w_iload rfl rfl ?_
          rcases (show a.toInt = 0 ∨ a.toInt = 1 ∨ a.toInt = 2 ∨ a.toInt = 3 ∨ a.toInt = 4 ∨ a.toInt = 5 by omega) with hs5 | hs5 | hs5 | hs5 | hs5 | hs5
          · obtain rfl : a = 0 := i_is hs5 (by decide)
            refine w_ialdv (j := 0) (x := (-1)) rfl rfl (by decide) (by unfold vp_in; decide) (hI _ fmI_83_0 (by decide)) ?_
            refine w_pushI rfl ?_
            refine w_icmp_ne rfl (fun h => absurd (by decide) h) (fun _ => ?_)
            refine w_pushI rfl ?_
            refine w_iret rfl (Or.inl rfl) ?_
            exact congrArg (fun v => some (Value.int v)) (show ((-11) : Int32) = f1_taken (0) b by have e0 : (0 : Int32).toInt = 0 := rfl; exact ite_eq_of (fun _ => rfl) (fun hc => absurd (by omega) hc))
          · obtain rfl : a = 1 := i_is hs5 (by decide)
            refine w_ialdv (j := 1) (x := (-1)) rfl rfl (by decide) (by unfold vp_in; decide) (hI _ fmI_83_1 (by decide)) ?_
            refine w_pushI rfl ?_
            refine w_icmp_ne rfl (fun h => absurd (by decide) h) (fun _ => ?_)
            refine w_pushI rfl ?_
            refine w_iret rfl (Or.inl rfl) ?_
            exact congrArg (fun v => some (Value.int v)) (show ((-11) : Int32) = f1_taken (1) b by have e0 : (1 : Int32).toInt = 1 := rfl; exact ite_eq_of (fun _ => rfl) (fun hc => absurd (by omega) hc))
          · obtain rfl : a = 2 := i_is hs5 (by decide)
            refine w_ialdv (j := 2) (x := (-1)) rfl rfl (by decide) (by unfold vp_in; decide) (hI _ fmI_83_2 (by decide)) ?_
            refine w_pushI rfl ?_
            refine w_icmp_ne rfl (fun h => absurd (by decide) h) (fun _ => ?_)
            refine w_pushI rfl ?_
            refine w_iret rfl (Or.inl rfl) ?_
            exact congrArg (fun v => some (Value.int v)) (show ((-11) : Int32) = f1_taken (2) b by have e0 : (2 : Int32).toInt = 2 := rfl; exact ite_eq_of (fun _ => rfl) (fun hc => absurd (by omega) hc))
          · obtain rfl : a = 3 := i_is hs5 (by decide)
            refine w_ialdv (j := 3) (x := (-1)) rfl rfl (by decide) (by unfold vp_in; decide) (hI _ fmI_83_3 (by decide)) ?_
            refine w_pushI rfl ?_
            refine w_icmp_ne rfl (fun h => absurd (by decide) h) (fun _ => ?_)
            refine w_pushI rfl ?_
            refine w_iret rfl (Or.inl rfl) ?_
            exact congrArg (fun v => some (Value.int v)) (show ((-11) : Int32) = f1_taken (3) b by have e0 : (3 : Int32).toInt = 3 := rfl; exact ite_eq_of (fun _ => rfl) (fun hc => absurd (by omega) hc))
          · obtain rfl : a = 4 := i_is hs5 (by decide)
            refine w_ialdv (j := 4) (x := (-1)) rfl rfl (by decide) (by unfold vp_in; decide) (hI _ fmI_83_4 (by decide)) ?_
            refine w_pushI rfl ?_
            refine w_icmp_ne rfl (fun h => absurd (by decide) h) (fun _ => ?_)
            refine w_pushI rfl ?_
            refine w_iret rfl (Or.inl rfl) ?_
            exact congrArg (fun v => some (Value.int v)) (show ((-11) : Int32) = f1_taken (4) b by have e0 : (4 : Int32).toInt = 4 := rfl; exact ite_eq_of (fun _ => rfl) (fun hc => absurd (by omega) hc))
          · obtain rfl : a = 5 := i_is hs5 (by decide)
            refine w_ialdv (j := 5) (x := (-1)) rfl rfl (by decide) (by unfold vp_in; decide) (hI _ fmI_83_5 (by decide)) ?_
            refine w_pushI rfl ?_
            refine w_icmp_ne rfl (fun h => absurd (by decide) h) (fun _ => ?_)
            refine w_pushI rfl ?_
            refine w_iret rfl (Or.inl rfl) ?_
            exact congrArg (fun v => some (Value.int v)) (show ((-11) : Int32) = f1_taken (5) b by have e0 : (5 : Int32).toInt = 5 := rfl; exact ite_eq_of (fun _ => rfl) (fun hc => absurd (by omega) hc))
set_option maxHeartbeats 40000000 in
set_option maxRecDepth 100000 in
theorem a1_count {X : Nat × (Nat → Int32)} {d : Nat} {I : Nat → Nat → Int32} {L : Nat → Nat → Int64} {R : Nat → Nat → Option Nat} (hI : ∀ q ∈ gFlI, I q.1 q.2.1 = q.2.2) (hL : ∀ q ∈ gFlL, L q.1 q.2.1 = q.2.2) (hR : ∀ q ∈ gFlR, R q.1 q.2.1 = some q.2.2) (a : Int32) : gW X (d + 12) 142 0 0 0 (gEn 142 [.ref 0, .int a]) [] (gK 87, I, L, R) (fun r σ => r = some (.int (f1_count a)) ∧ gFr σ I L R) := by
  show gW _ _ _ _ _ _ [some (.ref 0), some (.int a)] _ _ _
  refine w_iload rfl rfl ?_
  refine w_sw rfl (fun q hq hx => ?_) (fun hq => ?_)
  · have hq : q ∈ [((0 : Int32), 36), ((1 : Int32), 44), ((2 : Int32), 52), ((3 : Int32), 60), ((4 : Int32), 68)] := hq
    simp only [List.mem_cons, List.not_mem_nil, or_false] at hq
    rcases hq with rfl | rfl | rfl | rfl | rfl
    · obtain rfl : a = 0 := hx
      refine w_aload rfl rfl ?_
      refine w_getR (r := 8) rfl rfl (hR _ fmR_0_1) ?_
      refine w_getIv (x := 0) rfl rfl (hI _ fmI_8_2) ?_
      refine w_iret rfl (Or.inl rfl) ?_
      exact ⟨congrArg (fun v => some (Value.int v)) (show (0 : Int32) = f1_count (0) by have e0 : (0 : Int32).toInt = 0 := rfl; exact ite_eq_of (fun _ => rfl) (fun hc => absurd (by omega) hc)), rfl, fun x hx => rfl, fun x hx => rfl, fun x hx => rfl⟩
    · obtain rfl : a = 1 := hx
      refine w_aload rfl rfl ?_
      refine w_getR (r := 1) rfl rfl (hR _ fmR_0_0) ?_
      refine w_getIv (x := 0) rfl rfl (hI _ fmI_1_1) ?_
      refine w_iret rfl (Or.inl rfl) ?_
      exact ⟨congrArg (fun v => some (Value.int v)) (show (0 : Int32) = f1_count (1) by have e0 : (1 : Int32).toInt = 1 := rfl; exact ite_eq_of (fun _ => rfl) (fun hc => absurd (by omega) hc)), rfl, fun x hx => rfl, fun x hx => rfl, fun x hx => rfl⟩
    · obtain rfl : a = 2 := hx
      refine w_aload rfl rfl ?_
      refine w_getR (r := 29) rfl rfl (hR _ fmR_0_9) ?_
      refine w_getIv (x := 0) rfl rfl (hI _ fmI_29_5) ?_
      refine w_iret rfl (Or.inl rfl) ?_
      exact ⟨congrArg (fun v => some (Value.int v)) (show (0 : Int32) = f1_count (2) by have e0 : (2 : Int32).toInt = 2 := rfl; exact ite_eq_of (fun _ => rfl) (fun hc => absurd (by omega) hc)), rfl, fun x hx => rfl, fun x hx => rfl, fun x hx => rfl⟩
    · obtain rfl : a = 3 := hx
      refine w_aload rfl rfl ?_
      refine w_getR (r := 34) rfl rfl (hR _ fmR_0_10) ?_
      refine w_getIv (x := 0) rfl rfl (hI _ fmI_34_1) ?_
      refine w_iret rfl (Or.inl rfl) ?_
      exact ⟨congrArg (fun v => some (Value.int v)) (show (0 : Int32) = f1_count (3) by have e0 : (3 : Int32).toInt = 3 := rfl; exact ite_eq_of (fun _ => rfl) (fun hc => absurd (by omega) hc)), rfl, fun x hx => rfl, fun x hx => rfl, fun x hx => rfl⟩
    · obtain rfl : a = 4 := hx
      refine w_aload rfl rfl ?_
      refine w_getR (r := 34) rfl rfl (hR _ fmR_0_10) ?_
      refine w_getIv (x := 0) rfl rfl (hI _ fmI_34_3) ?_
      refine w_iret rfl (Or.inl rfl) ?_
      exact ⟨congrArg (fun v => some (Value.int v)) (show (0 : Int32) = f1_count (4) by have e0 : (4 : Int32).toInt = 4 := rfl; exact ite_eq_of (fun _ => rfl) (fun hc => absurd (by omega) hc)), rfl, fun x hx => rfl, fun x hx => rfl, fun x hx => rfl⟩
  · have hq : ∀ q ∈ [((0 : Int32), 36), ((1 : Int32), 44), ((2 : Int32), 52), ((3 : Int32), 60), ((4 : Int32), 68)], ¬ a = q.1 := hq
    have hn0 : ¬ a.toInt = 0 := fun h => hq (0, 36) (by simp) (i_is h (by decide))
    have hn1 : ¬ a.toInt = 1 := fun h => hq (1, 44) (by simp) (i_is h (by decide))
    have hn2 : ¬ a.toInt = 2 := fun h => hq (2, 52) (by simp) (i_is h (by decide))
    have hn3 : ¬ a.toInt = 3 := fun h => hq (3, 60) (by simp) (i_is h (by decide))
    have hn4 : ¬ a.toInt = 4 := fun h => hq (4, 68) (by simp) (i_is h (by decide))
    refine w_pushI rfl ?_
    refine w_iret rfl (Or.inl rfl) ?_
    exact ⟨congrArg (fun v => some (Value.int v)) (show ((-1) : Int32) = f1_count a by exact ite_eq_of (fun hc => (by exfalso; omega)) (fun hc => rfl)), rfl, fun x hx => rfl, fun x hx => rfl, fun x hx => rfl⟩
set_option maxHeartbeats 40000000 in
set_option maxRecDepth 100000 in
theorem a2_count {X : Nat × (Nat → Int32)} {d : Nat} {I : Nat → Nat → Int32} {L : Nat → Nat → Int64} {R : Nat → Nat → Option Nat} (hI : ∀ q ∈ gFlI, 50 ≤ q.1 → I q.1 q.2.1 = q.2.2) (hL : ∀ q ∈ gFlL, 50 ≤ q.1 → L q.1 q.2.1 = q.2.2) (hR : ∀ q ∈ gFlR, 50 ≤ q.1 → R q.1 q.2.1 = some q.2.2) (a : Int32) : gW X (d + 12) 247 0 0 0 (gEn 247 [.ref 50, .int a]) [] (gK 87, I, L, R) (fun r _ => r = some (.int (f1_count a))) := by
  show gW _ _ _ _ _ _ [some (.ref 50), some (.int a)] _ _ _
  refine w_iload rfl rfl ?_
  refine w_sw rfl (fun q hq hx => ?_) (fun hq => ?_)
  · have hq : q ∈ [((0 : Int32), 36), ((1 : Int32), 41), ((2 : Int32), 46), ((3 : Int32), 51), ((4 : Int32), 56)] := hq
    simp only [List.mem_cons, List.not_mem_nil, or_false] at hq
    rcases hq with rfl | rfl | rfl | rfl | rfl
    · obtain rfl : a = 0 := hx
      refine w_aload rfl rfl ?_
      refine w_getIv (x := 0) rfl rfl (hI _ fmI_50_1 (by decide)) ?_
      refine w_iret rfl (Or.inl rfl) ?_
      exact congrArg (fun v => some (Value.int v)) (show (0 : Int32) = f1_count (0) by have e0 : (0 : Int32).toInt = 0 := rfl; exact ite_eq_of (fun _ => rfl) (fun hc => absurd (by omega) hc))
    · obtain rfl : a = 1 := hx
      refine w_aload rfl rfl ?_
      refine w_getIv (x := 0) rfl rfl (hI _ fmI_50_15 (by decide)) ?_
      refine w_iret rfl (Or.inl rfl) ?_
      exact congrArg (fun v => some (Value.int v)) (show (0 : Int32) = f1_count (1) by have e0 : (1 : Int32).toInt = 1 := rfl; exact ite_eq_of (fun _ => rfl) (fun hc => absurd (by omega) hc))
    · obtain rfl : a = 2 := hx
      refine w_aload rfl rfl ?_
      refine w_getIv (x := 0) rfl rfl (hI _ fmI_50_8 (by decide)) ?_
      refine w_iret rfl (Or.inl rfl) ?_
      exact congrArg (fun v => some (Value.int v)) (show (0 : Int32) = f1_count (2) by have e0 : (2 : Int32).toInt = 2 := rfl; exact ite_eq_of (fun _ => rfl) (fun hc => absurd (by omega) hc))
    · obtain rfl : a = 3 := hx
      refine w_aload rfl rfl ?_
      refine w_getIv (x := 0) rfl rfl (hI _ fmI_50_54 (by decide)) ?_
      refine w_iret rfl (Or.inl rfl) ?_
      exact congrArg (fun v => some (Value.int v)) (show (0 : Int32) = f1_count (3) by have e0 : (3 : Int32).toInt = 3 := rfl; exact ite_eq_of (fun _ => rfl) (fun hc => absurd (by omega) hc))
    · obtain rfl : a = 4 := hx
      refine w_aload rfl rfl ?_
      refine w_getIv (x := 0) rfl rfl (hI _ fmI_50_56 (by decide)) ?_
      refine w_iret rfl (Or.inl rfl) ?_
      exact congrArg (fun v => some (Value.int v)) (show (0 : Int32) = f1_count (4) by have e0 : (4 : Int32).toInt = 4 := rfl; exact ite_eq_of (fun _ => rfl) (fun hc => absurd (by omega) hc))
  · have hq : ∀ q ∈ [((0 : Int32), 36), ((1 : Int32), 41), ((2 : Int32), 46), ((3 : Int32), 51), ((4 : Int32), 56)], ¬ a = q.1 := hq
    have hn0 : ¬ a.toInt = 0 := fun h => hq (0, 36) (by simp) (i_is h (by decide))
    have hn1 : ¬ a.toInt = 1 := fun h => hq (1, 41) (by simp) (i_is h (by decide))
    have hn2 : ¬ a.toInt = 2 := fun h => hq (2, 46) (by simp) (i_is h (by decide))
    have hn3 : ¬ a.toInt = 3 := fun h => hq (3, 51) (by simp) (i_is h (by decide))
    have hn4 : ¬ a.toInt = 4 := fun h => hq (4, 56) (by simp) (i_is h (by decide))
    refine w_pushI rfl ?_
    refine w_iret rfl (Or.inl rfl) ?_
    exact congrArg (fun v => some (Value.int v)) (show ((-1) : Int32) = f1_count a by exact ite_eq_of (fun hc => (by exfalso; omega)) (fun hc => rfl))
