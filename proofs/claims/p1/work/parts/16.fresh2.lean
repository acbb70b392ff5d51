set_option maxHeartbeats 40000000 in
set_option maxRecDepth 100000 in
theorem a1_dead {X : Nat × (Nat → Int32)} {d : Nat} {I : Nat → Nat → Int32} {L : Nat → Nat → Int64} {R : Nat → Nat → Option Nat} (hI : ∀ q ∈ gFlI, I q.1 q.2.1 = q.2.2) (hL : ∀ q ∈ gFlL, L q.1 q.2.1 = q.2.2) (hR : ∀ q ∈ gFlR, R q.1 q.2.1 = some q.2.2) (a : Int32) : gW X (d + 12) 117 0 0 0 (gEn 117 [.ref 0, .int a]) [] (gK 87, I, L, R) (fun r σ => r = some (.int (f1_dead a)) ∧ gFr σ I L R) := by
  show gW _ _ _ _ _ _ [some (.ref 0), some (.int a), none, none] _ _ _
  refine w_iload rfl rfl ?_
  refine w_callSi (As := [_]) (le := [some _]) rfl rfl (by decide) (Nat.le_of_ble_eq_true rfl) rfl ?_
  refine w_iload rfl rfl ?_
  refine w_if_ltZ rfl rfl (fun h1 => ?_) (fun h1 => ?_)
  · refine w_pushI rfl ?_
    refine w_iret rfl (Or.inr ⟨rfl, by decide⟩) ?_
    show gW _ _ _ _ _ _ _ _ _ _
    refine w_if_ne rfl (fun h => absurd (by decide) h) (fun _ => ?_)
    refine w_pushI rfl ?_
    refine w_iret rfl (Or.inl rfl) ?_
    exact ⟨congrArg (fun v => some (Value.int v)) (show ((-1) : Int32) = f1_dead a by exact ite_eq_of (fun hc => absurd hc (by omega)) (fun _ => rfl)), rfl, fun x hx => rfl, fun x hx => rfl, fun x hx => rfl⟩
  · refine w_iload rfl rfl ?_
    refine w_pushI rfl ?_
    refine w_icmp_geZ (b := 6) rfl rfl (by decide) (fun h2 => ?_) (fun h2 => ?_)
    · refine w_pushI rfl ?_
      refine w_iret rfl (Or.inr ⟨rfl, by decide⟩) ?_
      show gW _ _ _ _ _ _ _ _ _ _
      refine w_if_ne rfl (fun h => absurd (by decide) h) (fun _ => ?_)
      refine w_pushI rfl ?_
      refine w_iret rfl (Or.inl rfl) ?_
      exact ⟨congrArg (fun v => some (Value.int v)) (show ((-1) : Int32) = f1_dead a by exact ite_eq_of (fun hc => absurd hc (by omega)) (fun _ => rfl)), rfl, fun x hx => rfl, fun x hx => rfl, fun x hx => rfl⟩
    · refine w_pushI rfl ?_
      refine w_goto rfl ?_
      refine w_iret rfl (Or.inr ⟨rfl, by decide⟩) ?_
      show gW _ _ _ _ _ _ _ _ _ _
      refine w_if_ne rfl (fun _ => ?_) (fun h => absurd h (by decide))
      refine w_aload rfl rfl ?_
      refine w_getR (r := 10) rfl rfl (hR _ fmR_0_2) ?_
      refine w_aload rfl rfl ?_
      refine w_getR (r := 37) rfl rfl (hR _ fmR_0_11) ?_
      refine w_iload rfl rfl ?_
      rcases (show a.toInt = 0 ∨ a.toInt = 1 ∨ a.toInt = 2 ∨ a.toInt = 3 ∨ a.toInt = 4 ∨ a.toInt = 5 by omega) with hs3 | hs3 | hs3 | hs3 | hs3 | hs3
      · obtain rfl : a = 0 := i_is hs3 (by decide)
        refine w_aaldv (j := 0) (r := 38) rfl rfl (by decide) (by unfold vp_in; decide) (hR _ fmR_37_0) ?_
        refine w_callVi (As := [_]) (le := [some _, some _, none, none, none]) rfl rfl rfl (by decide) (Nat.le_of_ble_eq_true rfl) rfl ?_
        refine w_aload rfl rfl ?_
        refine w_callVi (As := []) (le := [some _]) rfl rfl rfl (by decide) (Nat.le_of_ble_eq_true rfl) rfl ?_
        refine w_aload rfl rfl ?_
        refine w_getIv (x := 0) rfl rfl (hI _ fmI_38_0) ?_
        refine w_if_ne rfl (fun h => absurd (by decide) h) (fun _ => ?_)
        refine w_pushI rfl ?_
        refine w_iret rfl (Or.inl rfl) ?_
        show gW _ _ _ _ _ _ _ _ _ _
        refine w_istore rfl rfl ?_
        refine w_iload rfl rfl ?_
        refine w_if_ge rfl (fun h => absurd h (by decide)) (fun _ => ?_)
        refine w_iload rfl rfl ?_
        refine w_iret rfl (Or.inl rfl) ?_
        show gW _ _ _ _ _ _ _ _ _ _
        refine w_istore rfl rfl ?_
        refine w_iload rfl rfl ?_
        refine w_if_ge rfl (fun h => absurd h (by decide)) (fun _ => ?_)
        refine w_iload rfl rfl ?_
        refine w_iret rfl (Or.inl rfl) ?_
        exact ⟨congrArg (fun v => some (Value.int v)) (show ((-11) : Int32) = f1_dead (0) by have e0 : (0 : Int32).toInt = 0 := rfl; exact ite_eq_of (fun _ => rfl) (fun hc => absurd (by omega) hc)), rfl, fun x hx => rfl, fun x hx => rfl, fun x hx => rfl⟩
      · obtain rfl : a = 1 := i_is hs3 (by decide)
        refine w_aaldv (j := 1) (r := 40) rfl rfl (by decide) (by unfold vp_in; decide) (hR _ fmR_37_1) ?_
        refine w_callVi (As := [_]) (le := [some _, some _, none, none, none]) rfl rfl rfl (by decide) (Nat.le_of_ble_eq_true rfl) rfl ?_
        refine w_aload rfl rfl ?_
        refine w_callVi (As := []) (le := [some _]) rfl rfl rfl (by decide) (Nat.le_of_ble_eq_true rfl) rfl ?_
        refine w_aload rfl rfl ?_
        refine w_getIv (x := 0) rfl rfl (hI _ fmI_40_0) ?_
        refine w_if_ne rfl (fun h => absurd (by decide) h) (fun _ => ?_)
        refine w_pushI rfl ?_
        refine w_iret rfl (Or.inl rfl) ?_
        show gW _ _ _ _ _ _ _ _ _ _
        refine w_istore rfl rfl ?_
        refine w_iload rfl rfl ?_
        refine w_if_ge rfl (fun h => absurd h (by decide)) (fun _ => ?_)
        refine w_iload rfl rfl ?_
        refine w_iret rfl (Or.inl rfl) ?_
        show gW _ _ _ _ _ _ _ _ _ _
        refine w_istore rfl rfl ?_
        refine w_iload rfl rfl ?_
        refine w_if_ge rfl (fun h => absurd h (by decide)) (fun _ => ?_)
        refine w_iload rfl rfl ?_
        refine w_iret rfl (Or.inl rfl) ?_
        exact ⟨congrArg (fun v => some (Value.int v)) (show ((-11) : Int32) = f1_dead (1) by have e0 : (1 : Int32).toInt = 1 := rfl; exact ite_eq_of (fun _ => rfl) (fun hc => absurd (by omega) hc)), rfl, fun x hx => rfl, fun x hx => rfl, fun x hx => rfl⟩
      · obtain rfl : a = 2 := i_is hs3 (by decide)
        refine w_aaldv (j := 2) (r := 42) rfl rfl (by decide) (by unfold vp_in; decide) (hR _ fmR_37_2) ?_
        refine w_callVi (As := [_]) (le := [some _, some _, none, none, none]) rfl rfl rfl (by decide) (Nat.le_of_ble_eq_true rfl) rfl ?_
        refine w_aload rfl rfl ?_
        refine w_callVi (As := []) (le := [some _]) rfl rfl rfl (by decide) (Nat.le_of_ble_eq_true rfl) rfl ?_
        refine w_aload rfl rfl ?_
        refine w_getIv (x := 0) rfl rfl (hI _ fmI_42_0) ?_
        refine w_if_ne rfl (fun h => absurd (by decide) h) (fun _ => ?_)
        refine w_pushI rfl ?_
        refine w_iret rfl (Or.inl rfl) ?_
        show gW _ _ _ _ _ _ _ _ _ _
        refine w_istore rfl rfl ?_
        refine w_iload rfl rfl ?_
        refine w_if_ge rfl (fun h => absurd h (by decide)) (fun _ => ?_)
        refine w_iload rfl rfl ?_
        refine w_iret rfl (Or.inl rfl) ?_
        show gW _ _ _ _ _ _ _ _ _ _
        refine w_istore rfl rfl ?_
        refine w_iload rfl rfl ?_
        refine w_if_ge rfl (fun h => absurd h (by decide)) (fun _ => ?_)
        refine w_iload rfl rfl ?_
        refine w_iret rfl (Or.inl rfl) ?_
        exact ⟨congrArg (fun v => some (Value.int v)) (show ((-11) : Int32) = f1_dead (2) by have e0 : (2 : Int32).toInt = 2 := rfl; exact ite_eq_of (fun _ => rfl) (fun hc => absurd (by omega) hc)), rfl, fun x hx => rfl, fun x hx => rfl, fun x hx => rfl⟩
      · obtain rfl : a = 3 := i_is hs3 (by decide)
        refine w_aaldv (j := 3) (r := 44) rfl rfl (by decide) (by unfold vp_in; decide) (hR _ fmR_37_3) ?_
        refine w_callVi (As := [_]) (le := [some _, some _, none, none, none]) rfl rfl rfl (by decide) (Nat.le_of_ble_eq_true rfl) rfl ?_
        refine w_aload rfl rfl ?_
        refine w_callVi (As := []) (le := [some _]) rfl rfl rfl (by decide) (Nat.le_of_ble_eq_true rfl) rfl ?_
        refine w_aload rfl rfl ?_
        refine w_getIv (x := 0) rfl rfl (hI _ fmI_44_0) ?_
        refine w_if_ne rfl (fun h => absurd (by decide) h) (fun _ => ?_)
        refine w_pushI rfl ?_
        refine w_iret rfl (Or.inl rfl) ?_
        show gW _ _ _ _ _ _ _ _ _ _
        refine w_istore rfl rfl ?_
        refine w_iload rfl rfl ?_
        refine w_if_ge rfl (fun h => absurd h (by decide)) (fun _ => ?_)
        refine w_iload rfl rfl ?_
        refine w_iret rfl (Or.inl rfl) ?_
        show gW _ _ _ _ _ _ _ _ _ _
        refine w_istore rfl rfl ?_
        refine w_iload rfl rfl ?_
        refine w_if_ge rfl (fun h => absurd h (by decide)) (fun _ => ?_)
        refine w_iload rfl rfl ?_
        refine w_iret rfl (Or.inl rfl) ?_
        exact ⟨congrArg (fun v => some (Value.int v)) (show ((-11) : Int32) = f1_dead (3) by have e0 : (3 : Int32).toInt = 3 := rfl; exact ite_eq_of (fun _ => rfl) (fun hc => absurd (by omega) hc)), rfl, fun x hx => rfl, fun x hx => rfl, fun x hx => rfl⟩
      · obtain rfl : a = 4 := i_is hs3 (by decide)
        refine w_aaldv (j := 4) (r := 46) rfl rfl (by decide) (by unfold vp_in; decide) (hR _ fmR_37_4) ?_
        refine w_callVi (As := [_]) (le := [some _, some _, none, none, none]) rfl rfl rfl (by decide) (Nat.le_of_ble_eq_true rfl) rfl ?_
        refine w_aload rfl rfl ?_
        refine w_callVi (As := []) (le := [some _]) rfl rfl rfl (by decide) (Nat.le_of_ble_eq_true rfl) rfl ?_
        refine w_aload rfl rfl ?_
        refine w_getIv (x := 0) rfl rfl (hI _ fmI_46_0) ?_
        refine w_if_ne rfl (fun h => absurd (by decide) h) (fun _ => ?_)
        refine w_pushI rfl ?_
        refine w_iret rfl (Or.inl rfl) ?_
        show gW _ _ _ _ _ _ _ _ _ _
        refine w_istore rfl rfl ?_
        refine w_iload rfl rfl ?_
        refine w_if_ge rfl (fun h => absurd h (by decide)) (fun _ => ?_)
        refine w_iload rfl rfl ?_
        refine w_iret rfl (Or.inl rfl) ?_
        show gW _ _ _ _ _ _ _ _ _ _
        refine w_istore rfl rfl ?_
        refine w_iload rfl rfl ?_
        refine w_if_ge rfl (fun h => absurd h (by decide)) (fun _ => ?_)
        refine w_iload rfl rfl ?_
        refine w_iret rfl (Or.inl rfl) ?_
        exact ⟨congrArg (fun v => some (Value.int v)) (show ((-11) : Int32) = f1_dead (4) by have e0 : (4 : Int32).toInt = 4 := rfl; exact ite_eq_of (fun _ => rfl) (fun hc => absurd (by omega) hc)), rfl, fun x hx => rfl, fun x hx => rfl, fun x hx => rfl⟩
      · obtain rfl : a = 5 := i_is hs3 (by decide)
        refine w_aaldv (j := 5) (r := 48) rfl rfl (by decide) (by unfold vp_in; decide) (hR _ fmR_37_5) ?_
        refine w_callVi (As := [_]) (le := [some _, some _, none, none, none]) rfl rfl rfl (by decide) (Nat.le_of_ble_eq_true rfl) rfl ?_
        refine w_aload rfl rfl ?_
        refine w_callVi (As := []) (le := [some _]) rfl rfl rfl (by decide) (Nat.le_of_ble_eq_true rfl) rfl ?_
        refine w_aload rfl rfl ?_
        refine w_getIv (x := 0) rfl rfl (hI _ fmI_48_0) ?_
        refine w_if_ne rfl (fun h => absurd (by decide) h) (fun _ => ?_)
        refine w_pushI rfl ?_
        refine w_iret rfl (Or.inl rfl) ?_
        show gW _ _ _ _ _ _ _ _ _ _
        refine w_istore rfl rfl ?_
        refine w_iload rfl rfl ?_
        refine w_if_ge rfl (fun h => absurd h (by decide)) (fun _ => ?_)
        refine w_iload rfl rfl ?_
        refine w_iret rfl (Or.inl rfl) ?_
        show gW _ _ _ _ _ _ _ _ _ _
        refine w_istore rfl rfl ?_
        refine w_iload rfl rfl ?_
        refine w_if_ge rfl (fun h => absurd h (by decide)) (fun _ => ?_)
        refine w_iload rfl rfl ?_
        refine w_iret rfl (Or.inl rfl) ?_
        exact ⟨congrArg (fun v => some (Value.int v)) (show ((-11) : Int32) = f1_dead (5) by have e0 : (5 : Int32).toInt = 5 := rfl; exact ite_eq_of (fun _ => rfl) (fun hc => absurd (by omega) hc)), rfl, fun x hx => rfl, fun x hx => rfl, fun x hx => rfl⟩
set_option maxHeartbeats 40000000 in
set_option maxRecDepth 100000 in
theorem a2_dead {X : Nat × (Nat → Int32)} {d : Nat} {I : Nat → Nat → Int32} {L : Nat → Nat → Int64} {R : Nat → Nat → Option Nat} (hI : ∀ q ∈ gFlI, 50 ≤ q.1 → I q.1 q.2.1 = q.2.2) (hL : ∀ q ∈ gFlL, 50 ≤ q.1 → L q.1 q.2.1 = q.2.2) (hR : ∀ q ∈ gFlR, 50 ≤ q.1 → R q.1 q.2.1 = some q.2.2) (a : Int32) : gW X (d + 12) 210 0 0 0 (gEn 210 [.ref 50, .int a]) [] (gK 87, I, L, R) (fun r _ => r = some (.int (f1_dead a))) := by
  show gW _ _ _ _ _ _ [some (.ref 50), some (.int a)] _ _ _
  refine w_iload rfl rfl ?_
  refine w_callSi (As := [_]) (le := [some _]) rfl rfl (by decide) (Nat.le_of_ble_eq_true rfl) rfl ?_
  refine w_iload rfl rfl ?_
  refine w_pushI rfl ?_
  refine w_pushI rfl ?_
  refine w_callSi (As := [_, _, _]) (le := [some _, some _, some _]) rfl rfl (by decide) (Nat.le_of_ble_eq_true rfl) rfl ?_
  refine w_iload rfl rfl ?_
  refine w_iload rfl rfl ?_
  refine w_icmp_ltZ (b := 0) rfl rfl (by decide) (fun h1 => ?_) (fun h1 => ?_)
  · refine w_pushI rfl ?_
    refine w_iret rfl (Or.inr ⟨rfl, by decide⟩) ?_
    show gW _ _ _ _ _ _ _ _ _ _
    refine w_iret rfl (Or.inr ⟨rfl, by decide⟩) ?_
    show gW _ _ _ _ _ _ _ _ _ _
    refine w_if_ne rfl (fun h => absurd (by decide) h) (fun _ => ?_)
    refine w_pushI rfl ?_
    refine w_iret rfl (Or.inl rfl) ?_
    exact congrArg (fun v => some (Value.int v)) (show ((-1) : Int32) = f1_dead a by exact ite_eq_of (fun hc => absurd hc (by omega)) (fun _ => rfl))
  · refine w_iload rfl rfl ?_
    refine w_iload rfl rfl ?_
    refine w_icmp_gtZ (b := 5) rfl rfl (by decide) (fun h2 => ?_) (fun h2 => ?_)
    · refine w_pushI rfl ?_
      refine w_iret rfl (Or.inr ⟨rfl, by decide⟩) ?_
      show gW _ _ _ _ _ _ _ _ _ _
      refine w_iret rfl (Or.inr ⟨rfl, by decide⟩) ?_
      show gW _ _ _ _ _ _ _ _ _ _
      refine w_if_ne rfl (fun h => absurd (by decide) h) (fun _ => ?_)
      refine w_pushI rfl ?_
      refine w_iret rfl (Or.inl rfl) ?_
      exact congrArg (fun v => some (Value.int v)) (show ((-1) : Int32) = f1_dead a by exact ite_eq_of (fun hc => absurd hc (by omega)) (fun _ => rfl))
    · refine w_pushI rfl ?_
      refine w_goto rfl ?_
      refine w_iret rfl (Or.inr ⟨rfl, by decide⟩) ?_
      show gW _ _ _ _ _ _ _ _ _ _
      refine w_iret rfl (Or.inr ⟨rfl, by decide⟩) ?_
      show gW _ _ _ _ _ _ _ _ _ _
      refine w_if_ne rfl (fun _ => ?_) (fun h => absurd h (by decide))
      refine w_aload rfl rfl ?_
      refine w_iload rfl rfl ?_
      refine w_callVi (As := [_]) (le := [some _, some _]) rfl rfl rfl (by decide) (Nat.le_of_ble_eq_true rfl) rfl ?_
      refine w_aload rfl rfl ?_
      refine w_getR (r := 83) rfl rfl (hR _ fmR_50_58 (by decide)) ?_
      refine w_iload rfl rfl ?_
      rcases (show a.toInt = 0 ∨ a.toInt = 1 ∨ a.toInt = 2 ∨ a.toInt = 3 ∨ a.toInt = 4 ∨ a.toInt = 5 by omega) with hs3 | hs3 | hs3 | hs3 | hs3 | hs3
      · obtain rfl : a = 0 := i_is hs3 (by decide)
        refine w_ialdv (j := 0) (x := (-1)) rfl rfl (by decide) (by unfold vp_in; decide) (hI _ fmI_83_0 (by decide)) ?_
        refine w_pushI rfl ?_
        refine w_icmp_ne rfl (fun h => absurd (by decide) h) (fun _ => ?_)
        refine w_pushI rfl ?_
        refine w_goto rfl ?_
        refine w_iret rfl (Or.inl rfl) ?_
        show gW _ _ _ _ _ _ _ _ _ _
        refine w_if_ge rfl (fun h => absurd h (by decide)) (fun _ => ?_)
        refine w_aload rfl rfl ?_
        refine w_iload rfl rfl ?_
        refine w_topv (z := 0) (by decide) ?_
        refine w_callVi (As := [_]) (le := [some _, some _]) rfl rfl rfl (by decide) (Nat.le_of_ble_eq_true rfl) rfl ?_
        refine w_aload rfl rfl ?_
        refine w_getR (r := 83) rfl rfl (hR _ fmR_50_58 (by decide)) ?_
        refine w_iload rfl rfl ?_
        refine w_ialdv (j := 0) (x := (-1)) rfl rfl (by decide) (by unfold vp_in; decide) (hI _ fmI_83_0 (by decide)) ?_
        refine w_pushI rfl ?_
        refine w_icmp_ne rfl (fun h => absurd (by decide) h) (fun _ => ?_)
        refine w_pushI rfl ?_
        refine w_goto rfl ?_
        refine w_iret rfl (Or.inl rfl) ?_
        show gW _ _ _ _ _ _ _ _ _ _
        refine w_iret rfl (Or.inl rfl) ?_
        exact congrArg (fun v => some (Value.int v)) (show ((-11) : Int32) = f1_dead (0) by have e0 : (0 : Int32).toInt = 0 := rfl; exact ite_eq_of (fun _ => rfl) (fun hc => absurd (by omega) hc))
      · obtain rfl : a = 1 := i_is hs3 (by decide)
        refine w_ialdv (j := 1) (x := (-1)) rfl rfl (by decide) (by unfold vp_in; decide) (hI _ fmI_83_1 (by decide)) ?_
        refine w_pushI rfl ?_
        refine w_icmp_ne rfl (fun h => absurd (by decide) h) (fun _ => ?_)
        refine w_pushI rfl ?_
        refine w_goto rfl ?_
        refine w_iret rfl (Or.inl rfl) ?_
        show gW _ _ _ _ _ _ _ _ _ _
        refine w_if_ge rfl (fun h => absurd h (by decide)) (fun _ => ?_)
        refine w_aload rfl rfl ?_
        refine w_iload rfl rfl ?_
        refine w_topv (z := 1) (by decide) ?_
        refine w_callVi (As := [_]) (le := [some _, some _]) rfl rfl rfl (by decide) (Nat.le_of_ble_eq_true rfl) rfl ?_
        refine w_aload rfl rfl ?_
        refine w_getR (r := 83) rfl rfl (hR _ fmR_50_58 (by decide)) ?_
        refine w_iload rfl rfl ?_
        refine w_ialdv (j := 1) (x := (-1)) rfl rfl (by decide) (by unfold vp_in; decide) (hI _ fmI_83_1 (by decide)) ?_
        refine w_pushI rfl ?_
        refine w_icmp_ne rfl (fun h => absurd (by decide) h) (fun _ => ?_)
        refine w_pushI rfl ?_
        refine w_goto rfl ?_
        refine w_iret rfl (Or.inl rfl) ?_
        show gW _ _ _ _ _ _ _ _ _ _
        refine w_iret rfl (Or.inl rfl) ?_
        exact congrArg (fun v => some (Value.int v)) (show ((-11) : Int32) = f1_dead (1) by have e0 : (1 : Int32).toInt = 1 := rfl; exact ite_eq_of (fun _ => rfl) (fun hc => absurd (by omega) hc))
      · obtain rfl : a = 2 := i_is hs3 (by decide)
        refine w_ialdv (j := 2) (x := (-1)) rfl rfl (by decide) (by unfold vp_in; decide) (hI _ fmI_83_2 (by decide)) ?_
        refine w_pushI rfl ?_
        refine w_icmp_ne rfl (fun h => absurd (by decide) h) (fun _ => ?_)
        refine w_pushI rfl ?_
        refine w_goto rfl ?_
        refine w_iret rfl (Or.inl rfl) ?_
        show gW _ _ _ _ _ _ _ _ _ _
        refine w_if_ge rfl (fun h => absurd h (by decide)) (fun _ => ?_)
        refine w_aload rfl rfl ?_
        refine w_iload rfl rfl ?_
        refine w_topv (z := 2) (by decide) ?_
        refine w_callVi (As := [_]) (le := [some _, some _]) rfl rfl rfl (by decide) (Nat.le_of_ble_eq_true rfl) rfl ?_
        refine w_aload rfl rfl ?_
        refine w_getR (r := 83) rfl rfl (hR _ fmR_50_58 (by decide)) ?_
        refine w_iload rfl rfl ?_
        refine w_ialdv (j := 2) (x := (-1)) rfl rfl (by decide) (by unfold vp_in; decide) (hI _ fmI_83_2 (by decide)) ?_
        refine w_pushI rfl ?_
        refine w_icmp_ne rfl (fun h => absurd (by decide) h) (fun _ => ?_)
        refine w_pushI rfl ?_
        refine w_goto rfl ?_
        refine w_iret rfl (Or.inl rfl) ?_
        show gW _ _ _ _ _ _ _ _ _ _
        refine w_iret rfl (Or.inl rfl) ?_
        exact congrArg (fun v => some (Value.int v)) (show ((-11) : Int32) = f1_dead (2) by have e0 : (2 : Int32).toInt = 2 := rfl; exact ite_eq_of (fun _ => rfl) (fun hc => absurd (by omega) hc))
      · obtain rfl : a = 3 := i_is hs3 (by decide)
        refine w_ialdv (j := 3) (x := (-1)) rfl rfl (by decide) (by unfold vp_in; decide) (hI _ fmI_83_3 (by decide)) ?_
        refine w_pushI rfl ?_
        refine w_icmp_ne rfl (fun h => absurd (by decide) h) (fun _ => ?_)
        refine w_pushI rfl ?_
        refine w_goto rfl ?_
        refine w_iret rfl (Or.inl rfl) ?_
        show gW _ _ _ _ _ _ _ _ _ _
        refine w_if_ge rfl (fun h => absurd h (by decide)) (fun _ => ?_)
        refine w_aload rfl rfl ?_
        refine w_iload rfl rfl ?_
        refine w_topv (z := 3) (by decide) ?_
        refine w_callVi (As := [_]) (le := [some _, some _]) rfl rfl rfl (by decide) (Nat.le_of_ble_eq_true rfl) rfl ?_
        refine w_aload rfl rfl ?_
        refine w_getR (r := 83) rfl rfl (hR _ fmR_50_58 (by decide)) ?_
        refine w_iload rfl rfl ?_
        refine w_ialdv (j := 3) (x := (-1)) rfl rfl (by decide) (by unfold vp_in; decide) (hI _ fmI_83_3 (by decide)) ?_
        refine w_pushI rfl ?_
        refine w_icmp_ne rfl (fun h => absurd (by decide) h) (fun _ => ?_)
        refine w_pushI rfl ?_
        refine w_goto rfl ?_
        refine w_iret rfl (Or.inl rfl) ?_
        show gW _ _ _ _ _ _ _ _ _ _
        refine w_iret rfl (Or.inl rfl) ?_
        exact congrArg (fun v => some (Value.int v)) (show ((-11) : Int32) = f1_dead (3) by have e0 : (3 : Int32).toInt = 3 := rfl; exact ite_eq_of (fun _ => rfl) (fun hc => absurd (by omega) hc))
      · obtain rfl : a = 4 := i_is hs3 (by decide)
        refine w_ialdv (j := 4) (x := (-1)) rfl rfl (by decide) (by unfold vp_in; decide) (hI _ fmI_83_4 (by decide)) ?_
        refine w_pushI rfl ?_
        refine w_icmp_ne rfl (fun h => absurd (by decide) h) (fun _ => ?_)
        refine w_pushI rfl ?_
        refine w_goto rfl ?_
        refine w_iret rfl (Or.inl rfl) ?_
        show gW _ _ _ _ _ _ _ _ _ _
        refine w_if_ge rfl (fun h => absurd h (by decide)) (fun _ => ?_)
        refine w_aload rfl rfl ?_
        refine w_iload rfl rfl ?_
        refine w_topv (z := 4) (by decide) ?_
        refine w_callVi (As := [_]) (le := [some _, some _]) rfl rfl rfl (by decide) (Nat.le_of_ble_eq_true rfl) rfl ?_
        refine w_aload rfl rfl ?_
        refine w_getR (r := 83) rfl rfl (hR _ fmR_50_58 (by decide)) ?_
        refine w_iload rfl rfl ?_
        refine w_ialdv (j := 4) (x := (-1)) rfl rfl (by decide) (by unfold vp_in; decide) (hI _ fmI_83_4 (by decide)) ?_
        refine w_pushI rfl ?_
        refine w_icmp_ne rfl (fun h => absurd (by decide) h) (fun _ => ?_)
        refine w_pushI rfl ?_
        refine w_goto rfl ?_
        refine w_iret rfl (Or.inl rfl) ?_
        show gW _ _ _ _ _ _ _ _ _ _
        refine w_iret rfl (Or.inl rfl) ?_
        exact congrArg (fun v => some (Value.int v)) (show ((-11) : Int32) = f1_dead (4) by have e0 : (4 : Int32).toInt = 4 := rfl; exact ite_eq_of (fun _ => rfl) (fun hc => absurd (by omega) hc))
      · obtain rfl : a = 5 := i_is hs3 (by decide)
        refine w_ialdv (j := 5) (x := (-1)) rfl rfl (by decide) (by unfold vp_in; decide) (hI _ fmI_83_5 (by decide)) ?_
        refine w_pushI rfl ?_
        refine w_icmp_ne rfl (fun h => absurd (by decide) h) (fun _ => ?_)
        refine w_pushI rfl ?_
        refine w_goto rfl ?_
        refine w_iret rfl (Or.inl rfl) ?_
        show gW _ _ _ _ _ _ _ _ _ _
        refine w_if_ge rfl (fun h => absurd h (by decide)) (fun _ => ?_)
        refine w_aload rfl rfl ?_
        refine w_iload rfl rfl ?_
        refine w_topv (z := 5) (by decide) ?_
        refine w_callVi (As := [_]) (le := [some _, some _]) rfl rfl rfl (by decide) (Nat.le_of_ble_eq_true rfl) rfl ?_
        refine w_aload rfl rfl ?_
        refine w_getR (r := 83) rfl rfl (hR _ fmR_50_58 (by decide)) ?_
        refine w_iload rfl rfl ?_
        refine w_ialdv (j := 5) (x := (-1)) rfl rfl (by decide) (by unfold vp_in; decide) (hI _ fmI_83_5 (by decide)) ?_
        refine w_pushI rfl ?_
        refine w_icmp_ne rfl (fun h => absurd (by decide) h) (fun _ => ?_)
        refine w_pushI rfl ?_
        refine w_goto rfl ?_
        refine w_iret rfl (Or.inl rfl) ?_
        show gW _ _ _ _ _ _ _ _ _ _
        refine w_iret rfl (Or.inl rfl) ?_
        exact congrArg (fun v => some (Value.int v)) (show ((-11) : Int32) = f1_dead (5) by have e0 : (5 : Int32).toInt = 5 := rfl; exact ite_eq_of (fun _ => rfl) (fun hc => absurd (by omega) hc))
set_option maxHeartbeats 40000000 in
set_option maxRecDepth 100000 in
theorem a1_buy {X : Nat × (Nat → Int32)} {d : Nat} {I : Nat → Nat → Int32} {L : Nat → Nat → Int64} {R : Nat → Nat → Option Nat} (hI : ∀ q ∈ gFlI, I q.1 q.2.1 = q.2.2) (hL : ∀ q ∈ gFlL, L q.1 q.2.1 = q.2.2) (hR : ∀ q ∈ gFlR, R q.1 q.2.1 = some q.2.2) (a : Int32) (b : Int32) : gW X (d + 12) 118 0 0 0 (gEn 118 [.ref 0, .int a, .int b]) [] (gK 87, I, L, R) (fun r σ => r = some (.int (f1_buy a b)) ∧ gFr σ I L R) := by
  show gW _ _ _ _ _ _ [some (.ref 0), some (.int a), some (.int b)] _ _ _
  refine w_iload rfl rfl ?_
  refine w_if_ltZ rfl rfl (fun h1 => ?_) (fun h1 => ?_)
  · refine w_pushI rfl ?_
    refine w_iret rfl (Or.inl rfl) ?_
    exact ⟨congrArg (fun v => some (Value.int v)) (show ((-1) : Int32) = f1_buy a b by exact ite_eq_of (fun hc => absurd hc (by omega)) (fun _ => rfl)), rfl, fun x hx => rfl, fun x hx => rfl, fun x hx => rfl⟩
  · refine w_iload rfl rfl ?_
    refine w_pushI rfl ?_
    refine w_icmp_gtZ (b := 20) rfl rfl (by decide) (fun h2 => ?_) (fun h2 => ?_)
    · refine w_pushI rfl ?_
      refine w_iret rfl (Or.inl rfl) ?_
      exact ⟨congrArg (fun v => some (Value.int v)) (show ((-1) : Int32) = f1_buy a b by exact ite_eq_of (fun hc => absurd hc (by omega)) (fun _ => rfl)), rfl, fun x hx => rfl, fun x hx => rfl, fun x hx => rfl⟩
    · refine w_iload rfl rfl ?_
      refine w_callSi (As := [_]) (le := [some _]) rfl rfl (by decide) (Nat.le_of_ble_eq_true rfl) rfl ?_
      refine w_iload rfl rfl ?_
      refine w_if_eqZ rfl rfl (fun h3 => ?_) (fun h3 => ?_)
      · obtain rfl : b = 0 := i_is (show b.toInt = 0 by omega) (by decide)
        refine w_pushI rfl ?_
        refine w_goto rfl ?_
        refine w_iret rfl (Or.inr ⟨rfl, by decide⟩) ?_
        show gW _ _ _ _ _ _ _ _ _ _
        refine w_if_ne rfl (fun _ => ?_) (fun h => absurd h (by decide))
        refine w_aload rfl rfl ?_
        refine w_getR (r := 22) rfl rfl (hR _ fmR_0_5) ?_
        refine w_iload rfl rfl ?_
        refine w_aload rfl rfl ?_
        refine w_getR (r := 8) rfl rfl (hR _ fmR_0_1) ?_
        refine w_pushI rfl ?_
        refine w_pushI rfl ?_
        refine w_callVi (As := [_, _]) (le := [some _, some _, some _, none]) rfl rfl rfl (by decide) (Nat.le_of_ble_eq_true rfl) rfl ?_
        refine w_aload rfl rfl ?_
        refine w_iload rfl rfl ?_
        refine w_iload rfl rfl ?_
        refine w_callVi (As := [_, _]) (le := [some _, some _, some _]) rfl rfl rfl (by decide) (Nat.le_of_ble_eq_true rfl) rfl ?_
        refine w_iload rfl rfl ?_
        refine w_if_lt rfl (fun h => absurd h (by decide)) (fun _ => ?_)
        refine w_iload rfl rfl ?_
        refine w_pushI rfl ?_
        refine w_icmp_lt rfl (fun _ => ?_) (fun h => absurd (by decide) h)
        refine w_iload rfl rfl ?_
        refine w_pushI rfl ?_
        refine w_icmp_ge rfl (fun _ => ?_) (fun h => absurd (by decide) h)
        refine w_iload rfl rfl ?_
        refine w_if_ne rfl (fun h => absurd (by decide) h) (fun _ => ?_)
        refine w_pushI rfl ?_
        refine w_iload rfl rfl ?_
        refine w_iaddv (z := 51) rfl (by decide) ?_
        refine w_goto rfl ?_
        refine w_iret rfl (Or.inl rfl) ?_
        show gW _ _ _ _ _ _ _ _ _ _
        refine w_istore rfl rfl ?_
        refine w_iload rfl rfl ?_
        refine w_if_ge rfl (fun _ => ?_) (fun h => absurd (by decide) h)
        refine w_aload rfl rfl ?_
        refine w_getR (r := 9) rfl rfl (hR _ fmR_8_1) ?_
        refine w_iload rfl rfl ?_
        refine w_ialdv (j := 51) (x := 20) rfl rfl (by decide) (by unfold vp_in; decide) (hI _ fmI_9_51) ?_
        refine w_iret rfl (Or.inl rfl) ?_
        show gW _ _ _ _ _ _ _ _ _ _
        refine w_callVi (As := [_, _]) (le := [some _, some _, some _, none, none, none, none, none, none, none, none, none]) rfl rfl rfl (by decide) (Nat.le_of_ble_eq_true rfl) rfl ?_
        refine w_pushL rfl ?_
        refine w_aload rfl rfl ?_
        refine w_getR (r := 8) rfl rfl (hR _ fmR_22_0) ?_
        refine w_pushI rfl ?_
        refine w_pushI rfl ?_
        refine w_callVi (As := [_, _]) (le := [some _, some _, some _, none]) rfl rfl rfl (by decide) (Nat.le_of_ble_eq_true rfl) rfl ?_
        refine w_aload rfl rfl ?_
        refine w_iload rfl rfl ?_
        refine w_iload rfl rfl ?_
        refine w_callVi (As := [_, _]) (le := [some _, some _, some _]) rfl rfl rfl (by decide) (Nat.le_of_ble_eq_true rfl) rfl ?_
        refine w_iload rfl rfl ?_
        refine w_if_lt rfl (fun h => absurd h (by decide)) (fun _ => ?_)
        refine w_iload rfl rfl ?_
        refine w_pushI rfl ?_
        refine w_icmp_lt rfl (fun _ => ?_) (fun h => absurd (by decide) h)
        refine w_iload rfl rfl ?_
        refine w_pushI rfl ?_
        refine w_icmp_ge rfl (fun _ => ?_) (fun h => absurd (by decide) h)
        refine w_iload rfl rfl ?_
        refine w_if_ne rfl (fun h => absurd (by decide) h) (fun _ => ?_)
        refine w_pushI rfl ?_
        refine w_iload rfl rfl ?_
        refine w_iaddv (z := 48) rfl (by decide) ?_
        refine w_goto rfl ?_
        refine w_iret rfl (Or.inl rfl) ?_
        show gW _ _ _ _ _ _ _ _ _ _
        refine w_istore rfl rfl ?_
        refine w_iload rfl rfl ?_
        refine w_if_ge rfl (fun _ => ?_) (fun h => absurd (by decide) h)
        refine w_aload rfl rfl ?_
        refine w_getR (r := 9) rfl rfl (hR _ fmR_8_1) ?_
        refine w_iload rfl rfl ?_
        refine w_ialdv (j := 48) (x := 60) rfl rfl (by decide) (by unfold vp_in; decide) (hI _ fmI_9_48) ?_
        refine w_iret rfl (Or.inl rfl) ?_
        show gW _ _ _ _ _ _ _ _ _ _
        refine w_i2lv (z := 60) rfl (by decide) ?_
        refine w_lmulv (z := 60000) rfl (by decide) ?_
        refine w_lstore rfl rfl ?_
        refine w_pushL rfl ?_
        refine w_aload rfl rfl ?_
        refine w_getR (r := 8) rfl rfl (hR _ fmR_22_0) ?_
        refine w_pushI rfl ?_
        refine w_pushI rfl ?_
        refine w_callVi (As := [_, _]) (le := [some _, some _, some _, none]) rfl rfl rfl (by decide) (Nat.le_of_ble_eq_true rfl) rfl ?_
        refine w_aload rfl rfl ?_
        refine w_iload rfl rfl ?_
        refine w_iload rfl rfl ?_
        refine w_callVi (As := [_, _]) (le := [some _, some _, some _]) rfl rfl rfl (by decide) (Nat.le_of_ble_eq_true rfl) rfl ?_
        refine w_iload rfl rfl ?_
        refine w_if_lt rfl (fun h => absurd h (by decide)) (fun _ => ?_)
        refine w_iload rfl rfl ?_
        refine w_pushI rfl ?_
        refine w_icmp_lt rfl (fun _ => ?_) (fun h => absurd (by decide) h)
        refine w_iload rfl rfl ?_
        refine w_pushI rfl ?_
        refine w_icmp_ge rfl (fun _ => ?_) (fun h => absurd (by decide) h)
        refine w_iload rfl rfl ?_
        refine w_if_ne rfl (fun h => absurd (by decide) h) (fun _ => ?_)
        refine w_pushI rfl ?_
        refine w_iload rfl rfl ?_
        refine w_iaddv (z := 49) rfl (by decide) ?_
        refine w_goto rfl ?_
        refine w_iret rfl (Or.inl rfl) ?_
        show gW _ _ _ _ _ _ _ _ _ _
        refine w_istore rfl rfl ?_
        refine w_iload rfl rfl ?_
        refine w_if_ge rfl (fun _ => ?_) (fun h => absurd (by decide) h)
        refine w_aload rfl rfl ?_
        refine w_getR (r := 9) rfl rfl (hR _ fmR_8_1) ?_
        refine w_iload rfl rfl ?_
        refine w_ialdv (j := 49) (x := 90) rfl rfl (by decide) (by unfold vp_in; decide) (hI _ fmI_9_49) ?_
        refine w_iret rfl (Or.inl rfl) ?_
        show gW _ _ _ _ _ _ _ _ _ _
        refine w_i2lv (z := 90) rfl (by decide) ?_
        refine w_lmulv (z := 90000) rfl (by decide) ?_
        refine w_lstore rfl rfl ?_
        refine w_aload rfl rfl ?_
        refine w_getR (r := 8) rfl rfl (hR _ fmR_22_0) ?_
        refine w_pushI rfl ?_
        refine w_pushI rfl ?_
        refine w_callVi (As := [_, _]) (le := [some _, some _, some _, none]) rfl rfl rfl (by decide) (Nat.le_of_ble_eq_true rfl) rfl ?_
        refine w_aload rfl rfl ?_
        refine w_iload rfl rfl ?_
        refine w_iload rfl rfl ?_
        refine w_callVi (As := [_, _]) (le := [some _, some _, some _]) rfl rfl rfl (by decide) (Nat.le_of_ble_eq_true rfl) rfl ?_
        refine w_iload rfl rfl ?_
        refine w_if_lt rfl (fun h => absurd h (by decide)) (fun _ => ?_)
        refine w_iload rfl rfl ?_
        refine w_pushI rfl ?_
        refine w_icmp_lt rfl (fun _ => ?_) (fun h => absurd (by decide) h)
        refine w_iload rfl rfl ?_
        refine w_pushI rfl ?_
        refine w_icmp_ge rfl (fun _ => ?_) (fun h => absurd (by decide) h)
        refine w_iload rfl rfl ?_
        refine w_if_ne rfl (fun h => absurd (by decide) h) (fun _ => ?_)
        refine w_pushI rfl ?_
        refine w_iload rfl rfl ?_
        refine w_iaddv (z := 50) rfl (by decide) ?_
        refine w_goto rfl ?_
        refine w_iret rfl (Or.inl rfl) ?_
        show gW _ _ _ _ _ _ _ _ _ _
        refine w_istore rfl rfl ?_
        refine w_iload rfl rfl ?_
        refine w_if_ge rfl (fun _ => ?_) (fun h => absurd (by decide) h)
        refine w_aload rfl rfl ?_
        refine w_getR (r := 9) rfl rfl (hR _ fmR_8_1) ?_
        refine w_iload rfl rfl ?_
        refine w_ialdv (j := 50) (x := 3) rfl rfl (by decide) (by unfold vp_in; decide) (hI _ fmI_9_50) ?_
        refine w_iret rfl (Or.inl rfl) ?_
        show gW _ _ _ _ _ _ _ _ _ _
        refine w_i2lv (z := 3) rfl (by decide) ?_
        refine w_lstore rfl rfl ?_
        refine w_pushL rfl ?_
        refine w_lstore rfl rfl ?_
        refine w_aload rfl rfl ?_
        refine w_pushL rfl ?_
        refine w_putL rfl rfl ?_
        refine w_aload rfl rfl ?_
        refine w_pushI rfl ?_
        refine w_putI rfl rfl ?_
        refine w_pushI rfl ?_
        refine w_istore rfl rfl ?_
        refine w_iload rfl rfl ?_
        refine w_iload rfl rfl ?_
        refine w_icmp_geZ (a := 0) rfl (by decide) rfl (fun h5 => ?_) (fun h5 => ?_)
        · obtain rfl : a = 0 := i_is (show a.toInt = 0 by omega) (by decide)
          refine w_vret rfl rfl ?_
          show gW _ _ _ _ _ _ _ _ _ _
          refine w_iload rfl rfl ?_
          refine w_topv (z := 0) (by decide) ?_
          refine w_if_ne rfl (fun h => absurd (by decide) h) (fun _ => ?_)
          refine w_aload rfl rfl ?_
          refine w_getR (r := 22) rfl rfl (hR _ fmR_0_5) ?_
          refine w_getLv (x := 0) rfl rfl (gU_e) ?_
          refine w_l2iv (z := 0) rfl (by decide) ?_
          refine w_goto rfl ?_
          refine w_iret rfl (Or.inl rfl) ?_
          exact ⟨congrArg (fun v => some (Value.int v)) (show (0 : Int32) = f1_buy (0) (0) by have e0 : (0 : Int32).toInt = 0 := rfl; have e1 : (0 : Int32).toInt = 0 := rfl; exact ite_eq_of (fun _ => ite_eq_of (fun _ => ite_eq_of (fun _ => ite_eq_of (fun _ => ite_eq_of (fun _ => ite_eq_of (fun _ => ite_eq_of (fun _ => rfl) (fun hc => absurd (by omega) hc)) (fun hc => absurd (by omega) hc)) (fun hc => absurd (by omega) hc)) (fun hc => absurd (by omega) hc)) (fun hc => absurd (by omega) hc)) (fun hc => absurd (by omega) hc)) (fun hc => absurd (by omega) hc)), rfl, fun x hx => gU_o (by omega), fun x hx => gU_o (by omega), fun x hx => rfl⟩
        · refine w_lload rfl rfl ?_
          refine w_aload rfl rfl ?_
          refine w_getLv (x := 0) rfl rfl (gU_e) ?_
          refine w_lmulv (z := 0) rfl (by decide) ?_
          refine w_pushL rfl ?_
          refine w_lload rfl rfl ?_
          refine w_lsubv (z := 9) rfl (by decide) ?_
          refine w_lload rfl rfl ?_
          refine w_lmulv (z := 0) rfl (by decide) ?_
          refine w_laddv (z := 0) rfl (by decide) ?_
          refine w_pushL rfl ?_
          refine w_ldivv (z := 0) rfl (by decide) (by decide) ?_
          refine w_lstore rfl rfl ?_
          refine w_aload rfl rfl ?_
          refine w_pushL rfl ?_
          refine w_iload rfl rfl ?_
          refine w_i2lv (z := 20) rfl (by decide) ?_
          refine w_lmulv (z := 20000) rfl (by decide) ?_
          refine w_aload rfl rfl ?_
          refine w_getLv (x := 0) rfl rfl (gU_e) ?_
          refine w_laddv (z := 20000) rfl (by decide) ?_
          refine w_lload rfl rfl ?_
          refine w_lload rfl rfl ?_
          refine w_laddv (z := 60000) rfl (by decide) ?_
          refine w_lload rfl rfl ?_
          refine w_lload rfl rfl ?_
          refine w_laddv (z := 90000) rfl (by decide) ?_
          refine w_callVi (As := [_, _, _]) (le := [some _, some _, none, some _, none, some _, none]) rfl rfl rfl (by decide) (Nat.le_of_ble_eq_true rfl) rfl ?_
          refine w_aload rfl rfl ?_
          refine w_lload rfl rfl ?_
          refine w_putL rfl rfl ?_
          refine w_aload rfl rfl ?_
          refine w_pushI rfl ?_
          refine w_putI rfl rfl ?_
          refine w_lload rfl rfl ?_
          refine w_aload rfl rfl ?_
          refine w_getLv (x := 20000) rfl rfl (gU_e) ?_
          refine w_lcmpv (z := 1) rfl (by decide) ?_
          refine w_if_ge rfl (fun _ => ?_) (fun h => absurd (by decide) h)
          refine w_lload rfl rfl ?_
          refine w_aload rfl rfl ?_
          refine w_getLv (x := 20000) rfl rfl (gU_e) ?_
          refine w_lcmpv (z := 1) rfl (by decide) ?_
          refine w_if_ge rfl (fun _ => ?_) (fun h => absurd (by decide) h)
          refine w_vret rfl rfl ?_
          show gW _ _ _ _ _ _ _ _ _ _
          refine w_iincv (z := 1) rfl rfl (by decide) rfl ?_
          refine w_goto rfl ?_
          refine w_iload rfl rfl ?_
          refine w_iload rfl rfl ?_
          refine w_icmp_geZ (a := 1) rfl (by decide) rfl (fun h6 => ?_) (fun h6 => ?_)
          · obtain rfl : a = 1 := i_is (show a.toInt = 1 by omega) (by decide)
            refine w_vret rfl rfl ?_
            show gW _ _ _ _ _ _ _ _ _ _
            refine w_iload rfl rfl ?_
            refine w_topv (z := 0) (by decide) ?_
            refine w_if_ne rfl (fun h => absurd (by decide) h) (fun _ => ?_)
            refine w_aload rfl rfl ?_
            refine w_getR (r := 22) rfl rfl (hR _ fmR_0_5) ?_
            refine w_getLv (x := 20000) rfl rfl (gU_e) ?_
            refine w_l2iv (z := 20000) rfl (by decide) ?_
            refine w_goto rfl ?_
            refine w_iret rfl (Or.inl rfl) ?_
            exact ⟨congrArg (fun v => some (Value.int v)) (show (20000 : Int32) = f1_buy (1) (0) by have e0 : (1 : Int32).toInt = 1 := rfl; have e1 : (0 : Int32).toInt = 0 := rfl; exact ite_eq_of (fun _ => ite_eq_of (fun _ => ite_eq_of (fun _ => ite_eq_of (fun _ => ite_eq_of (fun _ => ite_eq_of (fun _ => ite_eq_of (fun hc => absurd hc (by omega)) (fun _ => rfl)) (fun hc => absurd (by omega) hc)) (fun hc => absurd (by omega) hc)) (fun hc => absurd (by omega) hc)) (fun hc => absurd (by omega) hc)) (fun hc => absurd (by omega) hc)) (fun hc => absurd (by omega) hc)), rfl, fun x hx => (gU_o (by omega)).trans (gU_o (by omega)), fun x hx => (gU_o (by omega)).trans (gU_o (by omega)), fun x hx => rfl⟩
          · refine w_lload rfl rfl ?_
            refine w_aload rfl rfl ?_
            refine w_getLv (x := 20000) rfl rfl (gU_e) ?_
            refine w_lmulv (z := 60000) rfl (by decide) ?_
            refine w_pushL rfl ?_
            refine w_lload rfl rfl ?_
            refine w_lsubv (z := 9) rfl (by decide) ?_
            refine w_lload rfl rfl ?_
            refine w_lmulv (z := 0) rfl (by decide) ?_
            refine w_laddv (z := 60000) rfl (by decide) ?_
            refine w_pushL rfl ?_
            refine w_ldivv (z := 5000) rfl (by decide) (by decide) ?_
            refine w_lstore rfl rfl ?_
            refine w_aload rfl rfl ?_
            refine w_pushL rfl ?_
            refine w_iload rfl rfl ?_
            refine w_i2lv (z := 20) rfl (by decide) ?_
            refine w_lmulv (z := 20000) rfl (by decide) ?_
            refine w_aload rfl rfl ?_
            refine w_getLv (x := 20000) rfl rfl (gU_e) ?_
            refine w_laddv (z := 40000) rfl (by decide) ?_
            refine w_lload rfl rfl ?_
            refine w_lload rfl rfl ?_
            refine w_laddv (z := 65000) rfl (by decide) ?_
            refine w_lload rfl rfl ?_
            refine w_lload rfl rfl ?_
            refine w_laddv (z := 95000) rfl (by decide) ?_
            refine w_callVi (As := [_, _, _]) (le := [some _, some _, none, some _, none, some _, none]) rfl rfl rfl (by decide) (Nat.le_of_ble_eq_true rfl) rfl ?_
            refine w_aload rfl rfl ?_
            refine w_lload rfl rfl ?_
            refine w_putL rfl rfl ?_
            refine w_aload rfl rfl ?_
            refine w_pushI rfl ?_
            refine w_putI rfl rfl ?_
            refine w_lload rfl rfl ?_
            refine w_aload rfl rfl ?_
            refine w_getLv (x := 40000) rfl rfl (gU_e) ?_
            refine w_lcmpv (z := 1) rfl (by decide) ?_
            refine w_if_ge rfl (fun _ => ?_) (fun h => absurd (by decide) h)
            refine w_lload rfl rfl ?_
            refine w_aload rfl rfl ?_
            refine w_getLv (x := 40000) rfl rfl (gU_e) ?_
            refine w_lcmpv (z := 1) rfl (by decide) ?_
            refine w_if_ge rfl (fun _ => ?_) (fun h => absurd (by decide) h)
            refine w_vret rfl rfl ?_
            show gW _ _ _ _ _ _ _ _ _ _
            refine w_iincv (z := 2) rfl rfl (by decide) rfl ?_
            refine w_goto rfl ?_
            refine w_iload rfl rfl ?_
            refine w_iload rfl rfl ?_
            refine w_icmp_geZ (a := 2) rfl (by decide) rfl (fun h7 => ?_) (fun h7 => ?_)
            · obtain rfl : a = 2 := i_is (show a.toInt = 2 by omega) (by decide)
              refine w_vret rfl rfl ?_
              show gW _ _ _ _ _ _ _ _ _ _
              refine w_iload rfl rfl ?_
              refine w_topv (z := 0) (by decide) ?_
              refine w_if_ne rfl (fun h => absurd (by decide) h) (fun _ => ?_)
              refine w_aload rfl rfl ?_
              refine w_getR (r := 22) rfl rfl (hR _ fmR_0_5) ?_
              refine w_getLv (x := 40000) rfl rfl (gU_e) ?_
              refine w_l2iv (z := 40000) rfl (by decide) ?_
              refine w_goto rfl ?_
              refine w_iret rfl (Or.inl rfl) ?_
              exact ⟨congrArg (fun v => some (Value.int v)) (show (40000 : Int32) = f1_buy (2) (0) by have e0 : (2 : Int32).toInt = 2 := rfl; have e1 : (0 : Int32).toInt = 0 := rfl; exact ite_eq_of (fun _ => ite_eq_of (fun _ => ite_eq_of (fun _ => ite_eq_of (fun _ => ite_eq_of (fun _ => ite_eq_of (fun hc => absurd hc (by omega)) (fun _ => rfl)) (fun hc => absurd (by omega) hc)) (fun hc => absurd (by omega) hc)) (fun hc => absurd (by omega) hc)) (fun hc => absurd (by omega) hc)) (fun hc => absurd (by omega) hc)), rfl, fun x hx => (gU_o (by omega)).trans ((gU_o (by omega)).trans (gU_o (by omega))), fun x hx => (gU_o (by omega)).trans ((gU_o (by omega)).trans (gU_o (by omega))), fun x hx => rfl⟩
            · refine w_lload rfl rfl ?_
              refine w_aload rfl rfl ?_
              refine w_getLv (x := 40000) rfl rfl (gU_e) ?_
              refine w_lmulv (z := 120000) rfl (by decide) ?_
              refine w_pushL rfl ?_
              refine w_lload rfl rfl ?_
              refine w_lsubv (z := 9) rfl (by decide) ?_
              refine w_lload rfl rfl ?_
              refine w_lmulv (z := 45000) rfl (by decide) ?_
              refine w_laddv (z := 165000) rfl (by decide) ?_
              refine w_pushL rfl ?_
              refine w_ldivv (z := 13750) rfl (by decide) (by decide) ?_
              refine w_lstore rfl rfl ?_
              refine w_aload rfl rfl ?_
              refine w_pushL rfl ?_
              refine w_iload rfl rfl ?_
              refine w_i2lv (z := 20) rfl (by decide) ?_
              refine w_lmulv (z := 20000) rfl (by decide) ?_
              refine w_aload rfl rfl ?_
              refine w_getLv (x := 40000) rfl rfl (gU_e) ?_
              refine w_laddv (z := 60000) rfl (by decide) ?_
              refine w_lload rfl rfl ?_
              refine w_lload rfl rfl ?_
              refine w_laddv (z := 73750) rfl (by decide) ?_
              refine w_lload rfl rfl ?_
              refine w_lload rfl rfl ?_
              refine w_laddv (z := 103750) rfl (by decide) ?_
              refine w_callVi (As := [_, _, _]) (le := [some _, some _, none, some _, none, some _, none]) rfl rfl rfl (by decide) (Nat.le_of_ble_eq_true rfl) rfl ?_
              refine w_aload rfl rfl ?_
              refine w_lload rfl rfl ?_
              refine w_putL rfl rfl ?_
              refine w_aload rfl rfl ?_
              refine w_pushI rfl ?_
              refine w_putI rfl rfl ?_
              refine w_lload rfl rfl ?_
              refine w_aload rfl rfl ?_
              refine w_getLv (x := 60000) rfl rfl (gU_e) ?_
              refine w_lcmpv (z := 1) rfl (by decide) ?_
              refine w_if_ge rfl (fun _ => ?_) (fun h => absurd (by decide) h)
              refine w_lload rfl rfl ?_
              refine w_aload rfl rfl ?_
              refine w_getLv (x := 60000) rfl rfl (gU_e) ?_
              refine w_lcmpv (z := 1) rfl (by decide) ?_
              refine w_if_ge rfl (fun _ => ?_) (fun h => absurd (by decide) h)
              refine w_vret rfl rfl ?_
              show gW _ _ _ _ _ _ _ _ _ _
              refine w_iincv (z := 3) rfl rfl (by decide) rfl ?_
              refine w_goto rfl ?_
              refine w_iload rfl rfl ?_
              refine w_iload rfl rfl ?_
              refine w_icmp_geZ (a := 3) rfl (by decide) rfl (fun h8 => ?_) (fun h8 => ?_)
              · obtain rfl : a = 3 := i_is (show a.toInt = 3 by omega) (by decide)
                refine w_vret rfl rfl ?_
                show gW _ _ _ _ _ _ _ _ _ _
                refine w_iload rfl rfl ?_
                refine w_topv (z := 0) (by decide) ?_
                refine w_if_ne rfl (fun h => absurd (by decide) h) (fun _ => ?_)
                refine w_aload rfl rfl ?_
                refine w_getR (r := 22) rfl rfl (hR _ fmR_0_5) ?_
                refine w_getLv (x := 60000) rfl rfl (gU_e) ?_
                refine w_l2iv (z := 60000) rfl (by decide) ?_
                refine w_goto rfl ?_
                refine w_iret rfl (Or.inl rfl) ?_
                exact ⟨congrArg (fun v => some (Value.int v)) (show (60000 : Int32) = f1_buy (3) (0) by have e0 : (3 : Int32).toInt = 3 := rfl; have e1 : (0 : Int32).toInt = 0 := rfl; exact ite_eq_of (fun _ => ite_eq_of (fun _ => ite_eq_of (fun _ => ite_eq_of (fun _ => ite_eq_of (fun hc => absurd hc (by omega)) (fun _ => ite_eq_of (fun _ => ite_eq_of (fun _ => rfl) (fun hc => absurd (by omega) hc)) (fun hc => absurd (by omega) hc))) (fun hc => absurd (by omega) hc)) (fun hc => absurd (by omega) hc)) (fun hc => absurd (by omega) hc)) (fun hc => absurd (by omega) hc)), rfl, fun x hx => (gU_o (by omega)).trans ((gU_o (by omega)).trans ((gU_o (by omega)).trans (gU_o (by omega)))), fun x hx => (gU_o (by omega)).trans ((gU_o (by omega)).trans ((gU_o (by omega)).trans (gU_o (by omega)))), fun x hx => rfl⟩
              · refine w_lload rfl rfl ?_
                refine w_aload rfl rfl ?_
                refine w_getLv (x := 60000) rfl rfl (gU_e) ?_
                refine w_lmulv (z := 180000) rfl (by decide) ?_
                refine w_pushL rfl ?_
                refine w_lload rfl rfl ?_
                refine w_lsubv (z := 9) rfl (by decide) ?_
                refine w_lload rfl rfl ?_
                refine w_lmulv (z := 123750) rfl (by decide) ?_
                refine w_laddv (z := 303750) rfl (by decide) ?_
                refine w_pushL rfl ?_
                refine w_ldivv (z := 25312) rfl (by decide) (by decide) ?_
                refine w_lstore rfl rfl ?_
                refine w_aload rfl rfl ?_
                refine w_pushL rfl ?_
                refine w_iload rfl rfl ?_
                refine w_i2lv (z := 20) rfl (by decide) ?_
                refine w_lmulv (z := 20000) rfl (by decide) ?_
                refine w_aload rfl rfl ?_
                refine w_getLv (x := 60000) rfl rfl (gU_e) ?_
                refine w_laddv (z := 80000) rfl (by decide) ?_
                refine w_lload rfl rfl ?_
                refine w_lload rfl rfl ?_
                refine w_laddv (z := 85312) rfl (by decide) ?_
                refine w_lload rfl rfl ?_
                refine w_lload rfl rfl ?_
                refine w_laddv (z := 115312) rfl (by decide) ?_
                refine w_callVi (As := [_, _, _]) (le := [some _, some _, none, some _, none, some _, none]) rfl rfl rfl (by decide) (Nat.le_of_ble_eq_true rfl) rfl ?_
                refine w_aload rfl rfl ?_
                refine w_lload rfl rfl ?_
                refine w_putL rfl rfl ?_
                refine w_aload rfl rfl ?_
                refine w_pushI rfl ?_
                refine w_putI rfl rfl ?_
                refine w_lload rfl rfl ?_
                refine w_aload rfl rfl ?_
                refine w_getLv (x := 80000) rfl rfl (gU_e) ?_
                refine w_lcmpv (z := 1) rfl (by decide) ?_
                refine w_if_ge rfl (fun _ => ?_) (fun h => absurd (by decide) h)
                refine w_lload rfl rfl ?_
                refine w_aload rfl rfl ?_
                refine w_getLv (x := 80000) rfl rfl (gU_e) ?_
                refine w_lcmpv (z := 1) rfl (by decide) ?_
                refine w_if_ge rfl (fun _ => ?_) (fun h => absurd (by decide) h)
                refine w_vret rfl rfl ?_
                show gW _ _ _ _ _ _ _ _ _ _
                refine w_iincv (z := 4) rfl rfl (by decide) rfl ?_
                refine w_goto rfl ?_
                refine w_iload rfl rfl ?_
                refine w_iload rfl rfl ?_
                refine w_icmp_geZ (a := 4) rfl (by decide) rfl (fun h9 => ?_) (fun h9 => ?_)
                · obtain rfl : a = 4 := i_is (show a.toInt = 4 by omega) (by decide)
                  refine w_vret rfl rfl ?_
                  show gW _ _ _ _ _ _ _ _ _ _
                  refine w_iload rfl rfl ?_
                  refine w_topv (z := 0) (by decide) ?_
                  refine w_if_ne rfl (fun h => absurd (by decide) h) (fun _ => ?_)
                  refine w_aload rfl rfl ?_
                  refine w_getR (r := 22) rfl rfl (hR _ fmR_0_5) ?_
                  refine w_getLv (x := 80000) rfl rfl (gU_e) ?_
                  refine w_l2iv (z := 80000) rfl (by decide) ?_
                  refine w_goto rfl ?_
                  refine w_iret rfl (Or.inl rfl) ?_
                  exact ⟨congrArg (fun v => some (Value.int v)) (show (80000 : Int32) = f1_buy (4) (0) by have e0 : (4 : Int32).toInt = 4 := rfl; have e1 : (0 : Int32).toInt = 0 := rfl; exact ite_eq_of (fun _ => ite_eq_of (fun _ => ite_eq_of (fun _ => ite_eq_of (fun _ => ite_eq_of (fun hc => absurd hc (by omega)) (fun _ => ite_eq_of (fun _ => ite_eq_of (fun hc => absurd hc (by omega)) (fun _ => rfl)) (fun hc => absurd (by omega) hc))) (fun hc => absurd (by omega) hc)) (fun hc => absurd (by omega) hc)) (fun hc => absurd (by omega) hc)) (fun hc => absurd (by omega) hc)), rfl, fun x hx => (gU_o (by omega)).trans ((gU_o (by omega)).trans ((gU_o (by omega)).trans ((gU_o (by omega)).trans (gU_o (by omega))))), fun x hx => (gU_o (by omega)).trans ((gU_o (by omega)).trans ((gU_o (by omega)).trans ((gU_o (by omega)).trans (gU_o (by omega))))), fun x hx => rfl⟩
                · refine w_lload rfl rfl ?_
                  refine w_aload rfl rfl ?_
                  refine w_getLv (x := 80000) rfl rfl (gU_e) ?_
                  refine w_lmulv (z := 240000) rfl (by decide) ?_
                  refine w_pushL rfl ?_
                  refine w_lload rfl rfl ?_
                  refine w_lsubv (z := 9) rfl (by decide) ?_
                  refine w_lload rfl rfl ?_
                  refine w_lmulv (z := 227808) rfl (by decide) ?_
                  refine w_laddv (z := 467808) rfl (by decide) ?_
                  refine w_pushL rfl ?_
                  refine w_ldivv (z := 38984) rfl (by decide) (by decide) ?_
                  refine w_lstore rfl rfl ?_
                  refine w_aload rfl rfl ?_
                  refine w_pushL rfl ?_
                  refine w_iload rfl rfl ?_
                  refine w_i2lv (z := 20) rfl (by decide) ?_
                  refine w_lmulv (z := 20000) rfl (by decide) ?_
                  refine w_aload rfl rfl ?_
                  refine w_getLv (x := 80000) rfl rfl (gU_e) ?_
                  refine w_laddv (z := 100000) rfl (by decide) ?_
                  refine w_lload rfl rfl ?_
                  refine w_lload rfl rfl ?_
                  refine w_laddv (z := 98984) rfl (by decide) ?_
                  refine w_lload rfl rfl ?_
                  refine w_lload rfl rfl ?_
                  refine w_laddv (z := 128984) rfl (by decide) ?_
                  refine w_callVi (As := [_, _, _]) (le := [some _, some _, none, some _, none, some _, none]) rfl rfl rfl (by decide) (Nat.le_of_ble_eq_true rfl) rfl ?_
                  refine w_aload rfl rfl ?_
                  refine w_lload rfl rfl ?_
                  refine w_putL rfl rfl ?_
                  refine w_aload rfl rfl ?_
                  refine w_pushI rfl ?_
                  refine w_putI rfl rfl ?_
                  refine w_lload rfl rfl ?_
                  refine w_aload rfl rfl ?_
                  refine w_getLv (x := 100000) rfl rfl (gU_e) ?_
                  refine w_lcmpv (z := (-1)) rfl (by decide) ?_
                  refine w_if_ge rfl (fun h => absurd h (by decide)) (fun _ => ?_)
                  refine w_aload rfl rfl ?_
                  refine w_lload rfl rfl ?_
                  refine w_putL rfl rfl ?_
                  refine w_aload rfl rfl ?_
                  refine w_pushI rfl ?_
                  refine w_putI rfl rfl ?_
                  refine w_lload rfl rfl ?_
                  refine w_aload rfl rfl ?_
                  refine w_getLv (x := 98984) rfl rfl (gU_e) ?_
                  refine w_lcmpv (z := 1) rfl (by decide) ?_
                  refine w_if_ge rfl (fun _ => ?_) (fun h => absurd (by decide) h)
                  refine w_vret rfl rfl ?_
                  show gW _ _ _ _ _ _ _ _ _ _
                  refine w_iincv (z := 5) rfl rfl (by decide) rfl ?_
                  refine w_goto rfl ?_
                  refine w_iload rfl rfl ?_
                  refine w_iload rfl rfl ?_
                  refine w_icmp_geZ (a := 5) rfl (by decide) rfl (fun h10 => ?_) (fun h10 => ?_)
                  · obtain rfl : a = 5 := i_is (show a.toInt = 5 by omega) (by decide)
                    refine w_vret rfl rfl ?_
                    show gW _ _ _ _ _ _ _ _ _ _
                    refine w_iload rfl rfl ?_
                    refine w_topv (z := 0) (by decide) ?_
                    refine w_if_ne rfl (fun h => absurd (by decide) h) (fun _ => ?_)
                    refine w_aload rfl rfl ?_
                    refine w_getR (r := 22) rfl rfl (hR _ fmR_0_5) ?_
                    refine w_getLv (x := 98984) rfl rfl (gU_e) ?_
                    refine w_l2iv (z := 98984) rfl (by decide) ?_
                    refine w_goto rfl ?_
                    refine w_iret rfl (Or.inl rfl) ?_
                    exact ⟨congrArg (fun v => some (Value.int v)) (show (98984 : Int32) = f1_buy (5) (0) by have e0 : (5 : Int32).toInt = 5 := rfl; have e1 : (0 : Int32).toInt = 0 := rfl; exact ite_eq_of (fun _ => ite_eq_of (fun _ => ite_eq_of (fun _ => ite_eq_of (fun _ => ite_eq_of (fun hc => absurd hc (by omega)) (fun _ => ite_eq_of (fun hc => absurd hc (by omega)) (fun _ => rfl))) (fun hc => absurd (by omega) hc)) (fun hc => absurd (by omega) hc)) (fun hc => absurd (by omega) hc)) (fun hc => absurd (by omega) hc)), rfl, fun x hx => (gU_o (by omega)).trans ((gU_o (by omega)).trans ((gU_o (by omega)).trans ((gU_o (by omega)).trans ((gU_o (by omega)).trans ((gU_o (by omega)).trans (gU_o (by omega))))))), fun x hx => (gU_o (by omega)).trans ((gU_o (by omega)).trans ((gU_o (by omega)).trans ((gU_o (by omega)).trans ((gU_o (by omega)).trans ((gU_o (by omega)).trans (gU_o (by omega))))))), fun x hx => rfl⟩
                  · refine w_lload rfl rfl ?_
                    refine w_aload rfl rfl ?_
                    refine w_getLv (x := 98984) rfl rfl (gU_e) ?_
                    refine w_lmulv (z := 296952) rfl (by decide) ?_
                    refine w_pushL rfl ?_
                    refine w_lload rfl rfl ?_
                    refine w_lsubv (z := 9) rfl (by decide) ?_
                    refine w_lload rfl rfl ?_
                    refine w_lmulv (z := 350856) rfl (by decide) ?_
                    refine w_laddv (z := 647808) rfl (by decide) ?_
                    refine w_pushL rfl ?_
                    refine w_ldivv (z := 53984) rfl (by decide) (by decide) ?_
                    refine w_lstore rfl rfl ?_
                    refine w_aload rfl rfl ?_
                    refine w_pushL rfl ?_
                    refine w_iload rfl rfl ?_
                    refine w_i2lv (z := 20) rfl (by decide) ?_
                    refine w_lmulv (z := 20000) rfl (by decide) ?_
                    refine w_aload rfl rfl ?_
                    refine w_getLv (x := 98984) rfl rfl (gU_e) ?_
                    refine w_laddv (z := 118984) rfl (by decide) ?_
                    refine w_lload rfl rfl ?_
                    refine w_lload rfl rfl ?_
                    refine w_laddv (z := 113984) rfl (by decide) ?_
                    refine w_lload rfl rfl ?_
                    refine w_lload rfl rfl ?_
                    refine w_laddv (z := 143984) rfl (by decide) ?_
                    refine w_callVi (As := [_, _, _]) (le := [some _, some _, none, some _, none, some _, none]) rfl rfl rfl (by decide) (Nat.le_of_ble_eq_true rfl) rfl ?_
                    refine w_aload rfl rfl ?_
                    refine w_lload rfl rfl ?_
                    refine w_putL rfl rfl ?_
                    refine w_aload rfl rfl ?_
                    refine w_pushI rfl ?_
                    refine w_putI rfl rfl ?_
                    refine w_lload rfl rfl ?_
                    refine w_aload rfl rfl ?_
                    refine w_getLv (x := 118984) rfl rfl (gU_e) ?_
                    refine w_lcmpv (z := (-1)) rfl (by decide) ?_
                    refine w_if_ge rfl (fun h => absurd h (by decide)) (fun _ => ?_)
                    refine w_aload rfl rfl ?_
                    refine w_lload rfl rfl ?_
                    refine w_putL rfl rfl ?_
                    refine w_aload rfl rfl ?_
                    refine w_pushI rfl ?_
                    refine w_putI rfl rfl ?_
                    refine w_lload rfl rfl ?_
                    refine w_aload rfl rfl ?_
                    refine w_getLv (x := 113984) rfl rfl (gU_e) ?_
                    refine w_lcmpv (z := 1) rfl (by decide) ?_
                    refine w_if_ge rfl (fun _ => ?_) (fun h => absurd (by decide) h)
                    refine w_vret rfl rfl ?_
                    show gW _ _ _ _ _ _ _ _ _ _
                    refine w_iincv (z := 6) rfl rfl (by decide) rfl ?_
                    refine w_goto rfl ?_
                    refine w_iload rfl rfl ?_
                    refine w_iload rfl rfl ?_
                    refine w_icmp_geZ (a := 6) rfl (by decide) rfl (fun h11 => ?_) (fun h11 => ?_)
                    · obtain rfl : a = 6 := i_is (show a.toInt = 6 by omega) (by decide)
                      refine w_vret rfl rfl ?_
                      show gW _ _ _ _ _ _ _ _ _ _
                      refine w_iload rfl rfl ?_
                      refine w_topv (z := 0) (by decide) ?_
                      refine w_if_ne rfl (fun h => absurd (by decide) h) (fun _ => ?_)
                      refine w_aload rfl rfl ?_
                      refine w_getR (r := 22) rfl rfl (hR _ fmR_0_5) ?_
                      refine w_getLv (x := 113984) rfl rfl (gU_e) ?_
                      refine w_l2iv (z := 113984) rfl (by decide) ?_
                      refine w_goto rfl ?_
                      refine w_iret rfl (Or.inl rfl) ?_
                      exact ⟨congrArg (fun v => some (Value.int v)) (show (113984 : Int32) = f1_buy (6) (0) by have e0 : (6 : Int32).toInt = 6 := rfl; have e1 : (0 : Int32).toInt = 0 := rfl; exact ite_eq_of (fun _ => ite_eq_of (fun _ => ite_eq_of (fun _ => ite_eq_of (fun hc => absurd hc (by omega)) (fun _ => ite_eq_of (fun _ => ite_eq_of (fun _ => ite_eq_of (fun _ => rfl) (fun hc => absurd (by omega) hc)) (fun hc => absurd (by omega) hc)) (fun hc => absurd (by omega) hc))) (fun hc => absurd (by omega) hc)) (fun hc => absurd (by omega) hc)) (fun hc => absurd (by omega) hc)), rfl, fun x hx => (gU_o (by omega)).trans ((gU_o (by omega)).trans ((gU_o (by omega)).trans ((gU_o (by omega)).trans ((gU_o (by omega)).trans ((gU_o (by omega)).trans ((gU_o (by omega)).trans ((gU_o (by omega)).trans (gU_o (by omega))))))))), fun x hx => (gU_o (by omega)).trans ((gU_o (by omega)).trans ((gU_o (by omega)).trans ((gU_o (by omega)).trans ((gU_o (by omega)).trans ((gU_o (by omega)).trans ((gU_o (by omega)).trans ((gU_o (by omega)).trans (gU_o (by omega))))))))), fun x hx => rfl⟩
                    · refine w_lload rfl rfl ?_
                      refine w_aload rfl rfl ?_
                      refine w_getLv (x := 113984) rfl rfl (gU_e) ?_
                      refine w_lmulv (z := 341952) rfl (by decide) ?_
                      refine w_pushL rfl ?_
                      refine w_lload rfl rfl ?_
                      refine w_lsubv (z := 9) rfl (by decide) ?_
                      refine w_lload rfl rfl ?_
                      refine w_lmulv (z := 485856) rfl (by decide) ?_
                      refine w_laddv (z := 827808) rfl (by decide) ?_
                      refine w_pushL rfl ?_
                      refine w_ldivv (z := 68984) rfl (by decide) (by decide) ?_
                      refine w_lstore rfl rfl ?_
                      refine w_aload rfl rfl ?_
                      refine w_pushL rfl ?_
                      refine w_iload rfl rfl ?_
                      refine w_i2lv (z := 20) rfl (by decide) ?_
                      refine w_lmulv (z := 20000) rfl (by decide) ?_
                      refine w_aload rfl rfl ?_
                      refine w_getLv (x := 113984) rfl rfl (gU_e) ?_
                      refine w_laddv (z := 133984) rfl (by decide) ?_
                      refine w_lload rfl rfl ?_
                      refine w_lload rfl rfl ?_
                      refine w_laddv (z := 128984) rfl (by decide) ?_
                      refine w_lload rfl rfl ?_
                      refine w_lload rfl rfl ?_
                      refine w_laddv (z := 158984) rfl (by decide) ?_
                      refine w_callVi (As := [_, _, _]) (le := [some _, some _, none, some _, none, some _, none]) rfl rfl rfl (by decide) (Nat.le_of_ble_eq_true rfl) rfl ?_
                      refine w_aload rfl rfl ?_
                      refine w_lload rfl rfl ?_
                      refine w_putL rfl rfl ?_
                      refine w_aload rfl rfl ?_
                      refine w_pushI rfl ?_
                      refine w_putI rfl rfl ?_
                      refine w_lload rfl rfl ?_
                      refine w_aload rfl rfl ?_
                      refine w_getLv (x := 133984) rfl rfl (gU_e) ?_
                      refine w_lcmpv (z := (-1)) rfl (by decide) ?_
                      refine w_if_ge rfl (fun h => absurd h (by decide)) (fun _ => ?_)
                      refine w_aload rfl rfl ?_
                      refine w_lload rfl rfl ?_
                      refine w_putL rfl rfl ?_
                      refine w_aload rfl rfl ?_
                      refine w_pushI rfl ?_
                      refine w_putI rfl rfl ?_
                      refine w_lload rfl rfl ?_
                      refine w_aload rfl rfl ?_
                      refine w_getLv (x := 128984) rfl rfl (gU_e) ?_
                      refine w_lcmpv (z := 1) rfl (by decide) ?_
                      refine w_if_ge rfl (fun _ => ?_) (fun h => absurd (by decide) h)
                      refine w_vret rfl rfl ?_
                      show gW _ _ _ _ _ _ _ _ _ _
                      refine w_iincv (z := 7) rfl rfl (by decide) rfl ?_
                      refine w_goto rfl ?_
                      refine w_iload rfl rfl ?_
                      refine w_iload rfl rfl ?_
                      refine w_icmp_geZ (a := 7) rfl (by decide) rfl (fun h12 => ?_) (fun h12 => ?_)
                      · obtain rfl : a = 7 := i_is (show a.toInt = 7 by omega) (by decide)
                        refine w_vret rfl rfl ?_
                        show gW _ _ _ _ _ _ _ _ _ _
                        refine w_iload rfl rfl ?_
                        refine w_topv (z := 0) (by decide) ?_
                        refine w_if_ne rfl (fun h => absurd (by decide) h) (fun _ => ?_)
                        refine w_aload rfl rfl ?_
                        refine w_getR (r := 22) rfl rfl (hR _ fmR_0_5) ?_
                        refine w_getLv (x := 128984) rfl rfl (gU_e) ?_
                        refine w_l2iv (z := 128984) rfl (by decide) ?_
                        refine w_goto rfl ?_
                        refine w_iret rfl (Or.inl rfl) ?_
                        exact ⟨congrArg (fun v => some (Value.int v)) (show (128984 : Int32) = f1_buy (7) (0) by have e0 : (7 : Int32).toInt = 7 := rfl; have e1 : (0 : Int32).toInt = 0 := rfl; exact ite_eq_of (fun _ => ite_eq_of (fun _ => ite_eq_of (fun _ => ite_eq_of (fun hc => absurd hc (by omega)) (fun _ => ite_eq_of (fun _ => ite_eq_of (fun _ => ite_eq_of (fun hc => absurd hc (by omega)) (fun _ => rfl)) (fun hc => absurd (by omega) hc)) (fun hc => absurd (by omega) hc))) (fun hc => absurd (by omega) hc)) (fun hc => absurd (by omega) hc)) (fun hc => absurd (by omega) hc)), rfl, fun x hx => (gU_o (by omega)).trans ((gU_o (by omega)).trans ((gU_o (by omega)).trans ((gU_o (by omega)).trans ((gU_o (by omega)).trans ((gU_o (by omega)).trans ((gU_o (by omega)).trans ((gU_o (by omega)).trans ((gU_o (by omega)).trans ((gU_o (by omega)).trans (gU_o (by omega))))))))))), fun x hx => (gU_o (by omega)).trans ((gU_o (by omega)).trans ((gU_o (by omega)).trans ((gU_o (by omega)).trans ((gU_o (by omega)).trans ((gU_o (by omega)).trans ((gU_o (by omega)).trans ((gU_o (by omega)).trans ((gU_o (by omega)).trans ((gU_o (by omega)).trans (gU_o (by omega))))))))))), fun x hx => rfl⟩
                      · refine w_lload rfl rfl ?_
                        refine w_aload rfl rfl ?_
                        refine w_getLv (x := 128984) rfl rfl (gU_e) ?_
                        refine w_lmulv (z := 386952) rfl (by decide) ?_
                        refine w_pushL rfl ?_
                        refine w_lload rfl rfl ?_
                        refine w_lsubv (z := 9) rfl (by decide) ?_
                        refine w_lload rfl rfl ?_
                        refine w_lmulv (z := 620856) rfl (by decide) ?_
                        refine w_laddv (z := 1007808) rfl (by decide) ?_
                        refine w_pushL rfl ?_
                        refine w_ldivv (z := 83984) rfl (by decide) (by decide) ?_
                        refine w_lstore rfl rfl ?_
                        refine w_aload rfl rfl ?_
                        refine w_pushL rfl ?_
                        refine w_iload rfl rfl ?_
                        refine w_i2lv (z := 20) rfl (by decide) ?_
                        refine w_lmulv (z := 20000) rfl (by decide) ?_
                        refine w_aload rfl rfl ?_
                        refine w_getLv (x := 128984) rfl rfl (gU_e) ?_
                        refine w_laddv (z := 148984) rfl (by decide) ?_
                        refine w_lload rfl rfl ?_
                        refine w_lload rfl rfl ?_
                        refine w_laddv (z := 143984) rfl (by decide) ?_
                        refine w_lload rfl rfl ?_
                        refine w_lload rfl rfl ?_
                        refine w_laddv (z := 173984) rfl (by decide) ?_
                        refine w_callVi (As := [_, _, _]) (le := [some _, some _, none, some _, none, some _, none]) rfl rfl rfl (by decide) (Nat.le_of_ble_eq_true rfl) rfl ?_
                        refine w_aload rfl rfl ?_
                        refine w_lload rfl rfl ?_
                        refine w_putL rfl rfl ?_
                        refine w_aload rfl rfl ?_
                        refine w_pushI rfl ?_
                        refine w_putI rfl rfl ?_
                        refine w_lload rfl rfl ?_
                        refine w_aload rfl rfl ?_
                        refine w_getLv (x := 148984) rfl rfl (gU_e) ?_
                        refine w_lcmpv (z := (-1)) rfl (by decide) ?_
                        refine w_if_ge rfl (fun h => absurd h (by decide)) (fun _ => ?_)
                        refine w_aload rfl rfl ?_
                        refine w_lload rfl rfl ?_
                        refine w_putL rfl rfl ?_
                        refine w_aload rfl rfl ?_
                        refine w_pushI rfl ?_
                        refine w_putI rfl rfl ?_
                        refine w_lload rfl rfl ?_
                        refine w_aload rfl rfl ?_
                        refine w_getLv (x := 143984) rfl rfl (gU_e) ?_
                        refine w_lcmpv (z := 1) rfl (by decide) ?_
                        refine w_if_ge rfl (fun _ => ?_) (fun h => absurd (by decide) h)
                        refine w_vret rfl rfl ?_
                        show gW _ _ _ _ _ _ _ _ _ _
                        refine w_iincv (z := 8) rfl rfl (by decide) rfl ?_
                        refine w_goto rfl ?_
                        refine w_iload rfl rfl ?_
                        refine w_iload rfl rfl ?_
                        refine w_icmp_geZ (a := 8) rfl (by decide) rfl (fun h13 => ?_) (fun h13 => ?_)
                        · obtain rfl : a = 8 := i_is (show a.toInt = 8 by omega) (by decide)
                          refine w_vret rfl rfl ?_
                          show gW _ _ _ _ _ _ _ _ _ _
                          refine w_iload rfl rfl ?_
                          refine w_topv (z := 0) (by decide) ?_
                          refine w_if_ne rfl (fun h => absurd (by decide) h) (fun _ => ?_)
                          refine w_aload rfl rfl ?_
                          refine w_getR (r := 22) rfl rfl (hR _ fmR_0_5) ?_
                          refine w_getLv (x := 143984) rfl rfl (gU_e) ?_
                          refine w_l2iv (z := 143984) rfl (by decide) ?_
                          refine w_goto rfl ?_
                          refine w_iret rfl (Or.inl rfl) ?_
                          exact ⟨congrArg (fun v => some (Value.int v)) (show (143984 : Int32) = f1_buy (8) (0) by have e0 : (8 : Int32).toInt = 8 := rfl; have e1 : (0 : Int32).toInt = 0 := rfl; exact ite_eq_of (fun _ => ite_eq_of (fun _ => ite_eq_of (fun _ => ite_eq_of (fun hc => absurd hc (by omega)) (fun _ => ite_eq_of (fun _ => ite_eq_of (fun hc => absurd hc (by omega)) (fun _ => rfl)) (fun hc => absurd (by omega) hc))) (fun hc => absurd (by omega) hc)) (fun hc => absurd (by omega) hc)) (fun hc => absurd (by omega) hc)), rfl, fun x hx => (gU_o (by omega)).trans ((gU_o (by omega)).trans ((gU_o (by omega)).trans ((gU_o (by omega)).trans ((gU_o (by omega)).trans ((gU_o (by omega)).trans ((gU_o (by omega)).trans ((gU_o (by omega)).trans ((gU_o (by omega)).trans ((gU_o (by omega)).trans ((gU_o (by omega)).trans ((gU_o (by omega)).trans (gU_o (by omega))))))))))))), fun x hx => (gU_o (by omega)).trans ((gU_o (by omega)).trans ((gU_o (by omega)).trans ((gU_o (by omega)).trans ((gU_o (by omega)).trans ((gU_o (by omega)).trans ((gU_o (by omega)).trans ((gU_o (by omega)).trans ((gU_o (by omega)).trans ((gU_o (by omega)).trans ((gU_o (by omega)).trans ((gU_o (by omega)).trans (gU_o (by omega))))))))))))), fun x hx => rfl⟩
                        · refine w_lload rfl rfl ?_
                          refine w_aload rfl rfl ?_
                          refine w_getLv (x := 143984) rfl rfl (gU_e) ?_
                          refine w_lmulv (z := 431952) rfl (by decide) ?_
                          refine w_pushL rfl ?_
                          refine w_lload rfl rfl ?_
                          refine w_lsubv (z := 9) rfl (by decide) ?_
                          refine w_lload rfl rfl ?_
                          refine w_lmulv (z := 755856) rfl (by decide) ?_
                          refine w_laddv (z := 1187808) rfl (by decide) ?_
                          refine w_pushL rfl ?_
                          refine w_ldivv (z := 98984) rfl (by decide) (by decide) ?_
                          refine w_lstore rfl rfl ?_
                          refine w_aload rfl rfl ?_
                          refine w_pushL rfl ?_
                          refine w_iload rfl rfl ?_
                          refine w_i2lv (z := 20) rfl (by decide) ?_
                          refine w_lmulv (z := 20000) rfl (by decide) ?_
                          refine w_aload rfl rfl ?_
                          refine w_getLv (x := 143984) rfl rfl (gU_e) ?_
                          refine w_laddv (z := 163984) rfl (by decide) ?_
                          refine w_lload rfl rfl ?_
                          refine w_lload rfl rfl ?_
                          refine w_laddv (z := 158984) rfl (by decide) ?_
                          refine w_lload rfl rfl ?_
                          refine w_lload rfl rfl ?_
                          refine w_laddv (z := 188984) rfl (by decide) ?_
                          refine w_callVi (As := [_, _, _]) (le := [some _, some _, none, some _, none, some _, none]) rfl rfl rfl (by decide) (Nat.le_of_ble_eq_true rfl) rfl ?_
                          refine w_aload rfl rfl ?_
                          refine w_lload rfl rfl ?_
                          refine w_putL rfl rfl ?_
                          refine w_aload rfl rfl ?_
                          refine w_pushI rfl ?_
                          refine w_putI rfl rfl ?_
                          refine w_lload rfl rfl ?_
                          refine w_aload rfl rfl ?_
                          refine w_getLv (x := 163984) rfl rfl (gU_e) ?_
                          refine w_lcmpv (z := (-1)) rfl (by decide) ?_
                          refine w_if_ge rfl (fun h => absurd h (by decide)) (fun _ => ?_)
                          refine w_aload rfl rfl ?_
                          refine w_lload rfl rfl ?_
                          refine w_putL rfl rfl ?_
                          refine w_aload rfl rfl ?_
                          refine w_pushI rfl ?_
                          refine w_putI rfl rfl ?_
                          refine w_lload rfl rfl ?_
                          refine w_aload rfl rfl ?_
                          refine w_getLv (x := 158984) rfl rfl (gU_e) ?_
                          refine w_lcmpv (z := 1) rfl (by decide) ?_
                          refine w_if_ge rfl (fun _ => ?_) (fun h => absurd (by decide) h)
                          refine w_vret rfl rfl ?_
                          show gW _ _ _ _ _ _ _ _ _ _
                          refine w_iincv (z := 9) rfl rfl (by decide) rfl ?_
                          refine w_goto rfl ?_
                          refine w_iload rfl rfl ?_
                          refine w_iload rfl rfl ?_
                          refine w_icmp_geZ (a := 9) rfl (by decide) rfl (fun h14 => ?_) (fun h14 => ?_)
                          · obtain rfl : a = 9 := i_is (show a.toInt = 9 by omega) (by decide)
                            refine w_vret rfl rfl ?_
                            show gW _ _ _ _ _ _ _ _ _ _
                            refine w_iload rfl rfl ?_
                            refine w_topv (z := 0) (by decide) ?_
                            refine w_if_ne rfl (fun h => absurd (by decide) h) (fun _ => ?_)
                            refine w_aload rfl rfl ?_
                            refine w_getR (r := 22) rfl rfl (hR _ fmR_0_5) ?_
                            refine w_getLv (x := 158984) rfl rfl (gU_e) ?_
                            refine w_l2iv (z := 158984) rfl (by decide) ?_
                            refine w_goto rfl ?_
                            refine w_iret rfl (Or.inl rfl) ?_
                            exact ⟨congrArg (fun v => some (Value.int v)) (show (158984 : Int32) = f1_buy (9) (0) by have e0 : (9 : Int32).toInt = 9 := rfl; have e1 : (0 : Int32).toInt = 0 := rfl; exact ite_eq_of (fun _ => ite_eq_of (fun _ => ite_eq_of (fun _ => ite_eq_of (fun hc => absurd hc (by omega)) (fun _ => ite_eq_of (fun hc => absurd hc (by omega)) (fun _ => ite_eq_of (fun _ => rfl) (fun hc => absurd (by omega) hc)))) (fun hc => absurd (by omega) hc)) (fun hc => absurd (by omega) hc)) (fun hc => absurd (by omega) hc)), rfl, fun x hx => (gU_o (by omega)).trans ((gU_o (by omega)).trans ((gU_o (by omega)).trans ((gU_o (by omega)).trans ((gU_o (by omega)).trans ((gU_o (by omega)).trans ((gU_o (by omega)).trans ((gU_o (by omega)).trans ((gU_o (by omega)).trans ((gU_o (by omega)).trans ((gU_o (by omega)).trans ((gU_o (by omega)).trans ((gU_o (by omega)).trans ((gU_o (by omega)).trans (gU_o (by omega))))))))))))))), fun x hx => (gU_o (by omega)).trans ((gU_o (by omega)).trans ((gU_o (by omega)).trans ((gU_o (by omega)).trans ((gU_o (by omega)).trans ((gU_o (by omega)).trans ((gU_o (by omega)).trans ((gU_o (by omega)).trans ((gU_o (by omega)).trans ((gU_o (by omega)).trans ((gU_o (by omega)).trans ((gU_o (by omega)).trans ((gU_o (by omega)).trans ((gU_o (by omega)).trans (gU_o (by omega))))))))))))))), fun x hx => rfl⟩
                          · refine w_lload rfl rfl ?_
                            refine w_aload rfl rfl ?_
                            refine w_getLv (x := 158984) rfl rfl (gU_e) ?_
                            refine w_lmulv (z := 476952) rfl (by decide) ?_
                            refine w_pushL rfl ?_
                            refine w_lload rfl rfl ?_
                            refine w_lsubv (z := 9) rfl (by decide) ?_
                            refine w_lload rfl rfl ?_
                            refine w_lmulv (z := 890856) rfl (by decide) ?_
                            refine w_laddv (z := 1367808) rfl (by decide) ?_
                            refine w_pushL rfl ?_
                            refine w_ldivv (z := 113984) rfl (by decide) (by decide) ?_
                            refine w_lstore rfl rfl ?_
                            refine w_aload rfl rfl ?_
                            refine w_pushL rfl ?_
                            refine w_iload rfl rfl ?_
                            refine w_i2lv (z := 20) rfl (by decide) ?_
                            refine w_lmulv (z := 20000) rfl (by decide) ?_
                            refine w_aload rfl rfl ?_
                            refine w_getLv (x := 158984) rfl rfl (gU_e) ?_
                            refine w_laddv (z := 178984) rfl (by decide) ?_
                            refine w_lload rfl rfl ?_
                            refine w_lload rfl rfl ?_
                            refine w_laddv (z := 173984) rfl (by decide) ?_
                            refine w_lload rfl rfl ?_
                            refine w_lload rfl rfl ?_
                            refine w_laddv (z := 203984) rfl (by decide) ?_
                            refine w_callVi (As := [_, _, _]) (le := [some _, some _, none, some _, none, some _, none]) rfl rfl rfl (by decide) (Nat.le_of_ble_eq_true rfl) rfl ?_
                            refine w_aload rfl rfl ?_
                            refine w_lload rfl rfl ?_
                            refine w_putL rfl rfl ?_
                            refine w_aload rfl rfl ?_
                            refine w_pushI rfl ?_
                            refine w_putI rfl rfl ?_
                            refine w_lload rfl rfl ?_
                            refine w_aload rfl rfl ?_
                            refine w_getLv (x := 178984) rfl rfl (gU_e) ?_
                            refine w_lcmpv (z := (-1)) rfl (by decide) ?_
                            refine w_if_ge rfl (fun h => absurd h (by decide)) (fun _ => ?_)
                            refine w_aload rfl rfl ?_
                            refine w_lload rfl rfl ?_
                            refine w_putL rfl rfl ?_
                            refine w_aload rfl rfl ?_
                            refine w_pushI rfl ?_
                            refine w_putI rfl rfl ?_
                            refine w_lload rfl rfl ?_
                            refine w_aload rfl rfl ?_
                            refine w_getLv (x := 173984) rfl rfl (gU_e) ?_
                            refine w_lcmpv (z := 1) rfl (by decide) ?_
                            refine w_if_ge rfl (fun _ => ?_) (fun h => absurd (by decide) h)
                            refine w_vret rfl rfl ?_
                            show gW _ _ _ _ _ _ _ _ _ _
                            refine w_iincv (z := 10) rfl rfl (by decide) rfl ?_
                            refine w_goto rfl ?_
                            refine w_iload rfl rfl ?_
                            refine w_iload rfl rfl ?_
                            refine w_icmp_geZ (a := 10) rfl (by decide) rfl (fun h15 => ?_) (fun h15 => ?_)
                            · obtain rfl : a = 10 := i_is (show a.toInt = 10 by omega) (by decide)
                              refine w_vret rfl rfl ?_
                              show gW _ _ _ _ _ _ _ _ _ _
                              refine w_iload rfl rfl ?_
                              refine w_topv (z := 0) (by decide) ?_
                              refine w_if_ne rfl (fun h => absurd (by decide) h) (fun _ => ?_)
                              refine w_aload rfl rfl ?_
                              refine w_getR (r := 22) rfl rfl (hR _ fmR_0_5) ?_
                              refine w_getLv (x := 173984) rfl rfl (gU_e) ?_
                              refine w_l2iv (z := 173984) rfl (by decide) ?_
                              refine w_goto rfl ?_
                              refine w_iret rfl (Or.inl rfl) ?_
                              exact ⟨congrArg (fun v => some (Value.int v)) (show (173984 : Int32) = f1_buy (10) (0) by have e0 : (10 : Int32).toInt = 10 := rfl; have e1 : (0 : Int32).toInt = 0 := rfl; exact ite_eq_of (fun _ => ite_eq_of (fun _ => ite_eq_of (fun _ => ite_eq_of (fun hc => absurd hc (by omega)) (fun _ => ite_eq_of (fun hc => absurd hc (by omega)) (fun _ => ite_eq_of (fun hc => absurd hc (by omega)) (fun _ => rfl)))) (fun hc => absurd (by omega) hc)) (fun hc => absurd (by omega) hc)) (fun hc => absurd (by omega) hc)), rfl, fun x hx => (gU_o (by omega)).trans ((gU_o (by omega)).trans ((gU_o (by omega)).trans ((gU_o (by omega)).trans ((gU_o (by omega)).trans ((gU_o (by omega)).trans ((gU_o (by omega)).trans ((gU_o (by omega)).trans ((gU_o (by omega)).trans ((gU_o (by omega)).trans ((gU_o (by omega)).trans ((gU_o (by omega)).trans ((gU_o (by omega)).trans ((gU_o (by omega)).trans ((gU_o (by omega)).trans ((gU_o (by omega)).trans (gU_o (by omega))))))))))))))))), fun x hx => (gU_o (by omega)).trans ((gU_o (by omega)).trans ((gU_o (by omega)).trans ((gU_o (by omega)).trans ((gU_o (by omega)).trans ((gU_o (by omega)).trans ((gU_o (by omega)).trans ((gU_o (by omega)).trans ((gU_o (by omega)).trans ((gU_o (by omega)).trans ((gU_o (by omega)).trans ((gU_o (by omega)).trans ((gU_o (by omega)).trans ((gU_o (by omega)).trans ((gU_o (by omega)).trans ((gU_o (by omega)).trans (gU_o (by omega))))))))))))))))), fun x hx => rfl⟩
                            · refine w_lload rfl rfl ?_
                              refine w_aload rfl rfl ?_
                              refine w_getLv (x := 173984) rfl rfl (gU_e) ?_
                              refine w_lmulv (z := 521952) rfl (by decide) ?_
                              refine w_pushL rfl ?_
                              refine w_lload rfl rfl ?_
                              refine w_lsubv (z := 9) rfl (by decide) ?_
                              refine w_lload rfl rfl ?_
                              refine w_lmulv (z := 1025856) rfl (by decide) ?_
                              refine w_laddv (z := 1547808) rfl (by decide) ?_
                              refine w_pushL rfl ?_
                              refine w_ldivv (z := 128984) rfl (by decide) (by decide) ?_
                              refine w_lstore rfl rfl ?_
                              refine w_aload rfl rfl ?_
                              refine w_pushL rfl ?_
                              refine w_iload rfl rfl ?_
                              refine w_i2lv (z := 20) rfl (by decide) ?_
                              refine w_lmulv (z := 20000) rfl (by decide) ?_
                              refine w_aload rfl rfl ?_
                              refine w_getLv (x := 173984) rfl rfl (gU_e) ?_
                              refine w_laddv (z := 193984) rfl (by decide) ?_
                              refine w_lload rfl rfl ?_
                              refine w_lload rfl rfl ?_
                              refine w_laddv (z := 188984) rfl (by decide) ?_
                              refine w_lload rfl rfl ?_
                              refine w_lload rfl rfl ?_
                              refine w_laddv (z := 218984) rfl (by decide) ?_
                              refine w_callVi (As := [_, _, _]) (le := [some _, some _, none, some _, none, some _, none]) rfl rfl rfl (by decide) (Nat.le_of_ble_eq_true rfl) rfl ?_
                              refine w_aload rfl rfl ?_
                              refine w_lload rfl rfl ?_
                              refine w_putL rfl rfl ?_
                              refine w_aload rfl rfl ?_
                              refine w_pushI rfl ?_
                              refine w_putI rfl rfl ?_
                              refine w_lload rfl rfl ?_
                              refine w_aload rfl rfl ?_
                              refine w_getLv (x := 193984) rfl rfl (gU_e) ?_
                              refine w_lcmpv (z := (-1)) rfl (by decide) ?_
                              refine w_if_ge rfl (fun h => absurd h (by decide)) (fun _ => ?_)
                              refine w_aload rfl rfl ?_
                              refine w_lload rfl rfl ?_
                              refine w_putL rfl rfl ?_
                              refine w_aload rfl rfl ?_
                              refine w_pushI rfl ?_
                              refine w_putI rfl rfl ?_
                              refine w_lload rfl rfl ?_
                              refine w_aload rfl rfl ?_
                              refine w_getLv (x := 188984) rfl rfl (gU_e) ?_
                              refine w_lcmpv (z := 1) rfl (by decide) ?_
                              refine w_if_ge rfl (fun _ => ?_) (fun h => absurd (by decide) h)
                              refine w_vret rfl rfl ?_
                              show gW _ _ _ _ _ _ _ _ _ _
                              refine w_iincv (z := 11) rfl rfl (by decide) rfl ?_
                              refine w_goto rfl ?_
                              refine w_iload rfl rfl ?_
                              refine w_iload rfl rfl ?_
                              refine w_icmp_geZ (a := 11) rfl (by decide) rfl (fun h16 => ?_) (fun h16 => ?_)
                              · obtain rfl : a = 11 := i_is (show a.toInt = 11 by omega) (by decide)
                                refine w_vret rfl rfl ?_
                                show gW _ _ _ _ _ _ _ _ _ _
                                refine w_iload rfl rfl ?_
                                refine w_topv (z := 0) (by decide) ?_
                                refine w_if_ne rfl (fun h => absurd (by decide) h) (fun _ => ?_)
                                refine w_aload rfl rfl ?_
                                refine w_getR (r := 22) rfl rfl (hR _ fmR_0_5) ?_
                                refine w_getLv (x := 188984) rfl rfl (gU_e) ?_
                                refine w_l2iv (z := 188984) rfl (by decide) ?_
                                refine w_goto rfl ?_
                                refine w_iret rfl (Or.inl rfl) ?_
                                exact ⟨congrArg (fun v => some (Value.int v)) (show (188984 : Int32) = f1_buy (11) (0) by have e0 : (11 : Int32).toInt = 11 := rfl; have e1 : (0 : Int32).toInt = 0 := rfl; exact ite_eq_of (fun _ => ite_eq_of (fun _ => ite_eq_of (fun hc => absurd hc (by omega)) (fun _ => ite_eq_of (fun _ => ite_eq_of (fun _ => ite_eq_of (fun _ => ite_eq_of (fun _ => rfl) (fun hc => absurd (by omega) hc)) (fun hc => absurd (by omega) hc)) (fun hc => absurd (by omega) hc)) (fun hc => absurd (by omega) hc))) (fun hc => absurd (by omega) hc)) (fun hc => absurd (by omega) hc)), rfl, fun x hx => (gU_o (by omega)).trans ((gU_o (by omega)).trans ((gU_o (by omega)).trans ((gU_o (by omega)).trans ((gU_o (by omega)).trans ((gU_o (by omega)).trans ((gU_o (by omega)).trans ((gU_o (by omega)).trans ((gU_o (by omega)).trans ((gU_o (by omega)).trans ((gU_o (by omega)).trans ((gU_o (by omega)).trans ((gU_o (by omega)).trans ((gU_o (by omega)).trans ((gU_o (by omega)).trans ((gU_o (by omega)).trans ((gU_o (by omega)).trans ((gU_o (by omega)).trans (gU_o (by omega))))))))))))))))))), fun x hx => (gU_o (by omega)).trans ((gU_o (by omega)).trans ((gU_o (by omega)).trans ((gU_o (by omega)).trans ((gU_o (by omega)).trans ((gU_o (by omega)).trans ((gU_o (by omega)).trans ((gU_o (by omega)).trans ((gU_o (by omega)).trans ((gU_o (by omega)).trans ((gU_o (by omega)).trans ((gU_o (by omega)).trans ((gU_o (by omega)).trans ((gU_o (by omega)).trans ((gU_o (by omega)).trans ((gU_o (by omega)).trans ((gU_o (by omega)).trans ((gU_o (by omega)).trans (gU_o (by omega))))))))))))))))))), fun x hx => rfl⟩
                              · refine w_lload rfl rfl ?_
                                refine w_aload rfl rfl ?_
                                refine w_getLv (x := 188984) rfl rfl (gU_e) ?_
                                refine w_lmulv (z := 566952) rfl (by decide) ?_
                                refine w_pushL rfl ?_
                                refine w_lload rfl rfl ?_
                                refine w_lsubv (z := 9) rfl (by decide) ?_
                                refine w_lload rfl rfl ?_
                                refine w_lmulv (z := 1160856) rfl (by decide) ?_
                                refine w_laddv (z := 1727808) rfl (by decide) ?_
                                refine w_pushL rfl ?_
                                refine w_ldivv (z := 143984) rfl (by decide) (by decide) ?_
                                refine w_lstore rfl rfl ?_
                                refine w_aload rfl rfl ?_
                                refine w_pushL rfl ?_
                                refine w_iload rfl rfl ?_
                                refine w_i2lv (z := 20) rfl (by decide) ?_
                                refine w_lmulv (z := 20000) rfl (by decide) ?_
                                refine w_aload rfl rfl ?_
                                refine w_getLv (x := 188984) rfl rfl (gU_e) ?_
                                refine w_laddv (z := 208984) rfl (by decide) ?_
                                refine w_lload rfl rfl ?_
                                refine w_lload rfl rfl ?_
                                refine w_laddv (z := 203984) rfl (by decide) ?_
                                refine w_lload rfl rfl ?_
                                refine w_lload rfl rfl ?_
                                refine w_laddv (z := 233984) rfl (by decide) ?_
                                refine w_callVi (As := [_, _, _]) (le := [some _, some _, none, some _, none, some _, none]) rfl rfl rfl (by decide) (Nat.le_of_ble_eq_true rfl) rfl ?_
                                refine w_aload rfl rfl ?_
                                refine w_lload rfl rfl ?_
                                refine w_putL rfl rfl ?_
                                refine w_aload rfl rfl ?_
                                refine w_pushI rfl ?_
                                refine w_putI rfl rfl ?_
                                refine w_lload rfl rfl ?_
                                refine w_aload rfl rfl ?_
                                refine w_getLv (x := 208984) rfl rfl (gU_e) ?_
                                refine w_lcmpv (z := (-1)) rfl (by decide) ?_
                                refine w_if_ge rfl (fun h => absurd h (by decide)) (fun _ => ?_)
                                refine w_aload rfl rfl ?_
                                refine w_lload rfl rfl ?_
                                refine w_putL rfl rfl ?_
                                refine w_aload rfl rfl ?_
                                refine w_pushI rfl ?_
                                refine w_putI rfl rfl ?_
                                refine w_lload rfl rfl ?_
                                refine w_aload rfl rfl ?_
                                refine w_getLv (x := 203984) rfl rfl (gU_e) ?_
                                refine w_lcmpv (z := 1) rfl (by decide) ?_
                                refine w_if_ge rfl (fun _ => ?_) (fun h => absurd (by decide) h)
                                refine w_vret rfl rfl ?_
                                show gW _ _ _ _ _ _ _ _ _ _
                                refine w_iincv (z := 12) rfl rfl (by decide) rfl ?_
                                refine w_goto rfl ?_
                                refine w_iload rfl rfl ?_
                                refine w_iload rfl rfl ?_
                                refine w_icmp_geZ (a := 12) rfl (by decide) rfl (fun h17 => ?_) (fun h17 => ?_)
                                · obtain rfl : a = 12 := i_is (show a.toInt = 12 by omega) (by decide)
                                  refine w_vret rfl rfl ?_
                                  show gW _ _ _ _ _ _ _ _ _ _
                                  refine w_iload rfl rfl ?_
                                  refine w_topv (z := 0) (by decide) ?_
                                  refine w_if_ne rfl (fun h => absurd (by decide) h) (fun _ => ?_)
                                  refine w_aload rfl rfl ?_
                                  refine w_getR (r := 22) rfl rfl (hR _ fmR_0_5) ?_
                                  refine w_getLv (x := 203984) rfl rfl (gU_e) ?_
                                  refine w_l2iv (z := 203984) rfl (by decide) ?_
                                  refine w_goto rfl ?_
                                  refine w_iret rfl (Or.inl rfl) ?_
                                  exact ⟨congrArg (fun v => some (Value.int v)) (show (203984 : Int32) = f1_buy (12) (0) by have e0 : (12 : Int32).toInt = 12 := rfl; have e1 : (0 : Int32).toInt = 0 := rfl; exact ite_eq_of (fun _ => ite_eq_of (fun _ => ite_eq_of (fun hc => absurd hc (by omega)) (fun _ => ite_eq_of (fun _ => ite_eq_of (fun _ => ite_eq_of (fun _ => ite_eq_of (fun hc => absurd hc (by omega)) (fun _ => rfl)) (fun hc => absurd (by omega) hc)) (fun hc => absurd (by omega) hc)) (fun hc => absurd (by omega) hc))) (fun hc => absurd (by omega) hc)) (fun hc => absurd (by omega) hc)), rfl, fun x hx => (gU_o (by omega)).trans ((gU_o (by omega)).trans ((gU_o (by omega)).trans ((gU_o (by omega)).trans ((gU_o (by omega)).trans ((gU_o (by omega)).trans ((gU_o (by omega)).trans ((gU_o (by omega)).trans ((gU_o (by omega)).trans ((gU_o (by omega)).trans ((gU_o (by omega)).trans ((gU_o (by omega)).trans ((gU_o (by omega)).trans ((gU_o (by omega)).trans ((gU_o (by omega)).trans ((gU_o (by omega)).trans ((gU_o (by omega)).trans ((gU_o (by omega)).trans ((gU_o (by omega)).trans ((gU_o (by omega)).trans (gU_o (by omega))))))))))))))))))))), fun x hx => (gU_o (by omega)).trans ((gU_o (by omega)).trans ((gU_o (by omega)).trans ((gU_o (by omega)).trans ((gU_o (by omega)).trans ((gU_o (by omega)).trans ((gU_o (by omega)).trans ((gU_o (by omega)).trans ((gU_o (by omega)).trans ((gU_o (by omega)).trans ((gU_o (by omega)).trans ((gU_o (by omega)).trans ((gU_o (by omega)).trans ((gU_o (by omega)).trans ((gU_o (by omega)).trans ((gU_o (by omega)).trans ((gU_o (by omega)).trans ((gU_o (by omega)).trans ((gU_o (by omega)).trans ((gU_o (by omega)).trans (gU_o (by omega))))))))))))))))))))), fun x hx => rfl⟩
                                · refine w_lload rfl rfl ?_
                                  refine w_aload rfl rfl ?_
                                  refine w_getLv (x := 203984) rfl rfl (gU_e) ?_
                                  refine w_lmulv (z := 611952) rfl (by decide) ?_
                                  refine w_pushL rfl ?_
                                  refine w_lload rfl rfl ?_
                                  refine w_lsubv (z := 9) rfl (by decide) ?_
                                  refine w_lload rfl rfl ?_
                                  refine w_lmulv (z := 1295856) rfl (by decide) ?_
                                  refine w_laddv (z := 1907808) rfl (by decide) ?_
                                  refine w_pushL rfl ?_
                                  refine w_ldivv (z := 158984) rfl (by decide) (by decide) ?_
                                  refine w_lstore rfl rfl ?_
                                  refine w_aload rfl rfl ?_
                                  refine w_pushL rfl ?_
                                  refine w_iload rfl rfl ?_
                                  refine w_i2lv (z := 20) rfl (by decide) ?_
                                  refine w_lmulv (z := 20000) rfl (by decide) ?_
                                  refine w_aload rfl rfl ?_
                                  refine w_getLv (x := 203984) rfl rfl (gU_e) ?_
                                  refine w_laddv (z := 223984) rfl (by decide) ?_
                                  refine w_lload rfl rfl ?_
                                  refine w_lload rfl rfl ?_
                                  refine w_laddv (z := 218984) rfl (by decide) ?_
                                  refine w_lload rfl rfl ?_
                                  refine w_lload rfl rfl ?_
                                  refine w_laddv (z := 248984) rfl (by decide) ?_
                                  refine w_callVi (As := [_, _, _]) (le := [some _, some _, none, some _, none, some _, none]) rfl rfl rfl (by decide) (Nat.le_of_ble_eq_true rfl) rfl ?_
                                  refine w_aload rfl rfl ?_
                                  refine w_lload rfl rfl ?_
                                  refine w_putL rfl rfl ?_
                                  refine w_aload rfl rfl ?_
                                  refine w_pushI rfl ?_
                                  refine w_putI rfl rfl ?_
                                  refine w_lload rfl rfl ?_
                                  refine w_aload rfl rfl ?_
                                  refine w_getLv (x := 223984) rfl rfl (gU_e) ?_
                                  refine w_lcmpv (z := (-1)) rfl (by decide) ?_
                                  refine w_if_ge rfl (fun h => absurd h (by decide)) (fun _ => ?_)
                                  refine w_aload rfl rfl ?_
                                  refine w_lload rfl rfl ?_
                                  refine w_putL rfl rfl ?_
                                  refine w_aload rfl rfl ?_
                                  refine w_pushI rfl ?_
                                  refine w_putI rfl rfl ?_
                                  refine w_lload rfl rfl ?_
                                  refine w_aload rfl rfl ?_
                                  refine w_getLv (x := 218984) rfl rfl (gU_e) ?_
                                  refine w_lcmpv (z := 1) rfl (by decide) ?_
                                  refine w_if_ge rfl (fun _ => ?_) (fun h => absurd (by decide) h)
                                  refine w_vret rfl rfl ?_
                                  show gW _ _ _ _ _ _ _ _ _ _
                                  refine w_iincv (z := 13) rfl rfl (by decide) rfl ?_
                                  refine w_goto rfl ?_
                                  refine w_iload rfl rfl ?_
                                  refine w_iload rfl rfl ?_
                                  refine w_icmp_geZ (a := 13) rfl (by decide) rfl (fun h18 => ?_) (fun h18 => ?_)
                                  · obtain rfl : a = 13 := i_is (show a.toInt = 13 by omega) (by decide)
                                    refine w_vret rfl rfl ?_
                                    show gW _ _ _ _ _ _ _ _ _ _
                                    refine w_iload rfl rfl ?_
                                    refine w_topv (z := 0) (by decide) ?_
                                    refine w_if_ne rfl (fun h => absurd (by decide) h) (fun _ => ?_)
                                    refine w_aload rfl rfl ?_
                                    refine w_getR (r := 22) rfl rfl (hR _ fmR_0_5) ?_
                                    refine w_getLv (x := 218984) rfl rfl (gU_e) ?_
                                    refine w_l2iv (z := 218984) rfl (by decide) ?_
                                    refine w_goto rfl ?_
                                    refine w_iret rfl (Or.inl rfl) ?_
                                    exact ⟨congrArg (fun v => some (Value.int v)) (show (218984 : Int32) = f1_buy (13) (0) by have e0 : (13 : Int32).toInt = 13 := rfl; have e1 : (0 : Int32).toInt = 0 := rfl; exact ite_eq_of (fun _ => ite_eq_of (fun _ => ite_eq_of (fun hc => absurd hc (by omega)) (fun _ => ite_eq_of (fun _ => ite_eq_of (fun _ => ite_eq_of (fun hc => absurd hc (by omega)) (fun _ => rfl)) (fun hc => absurd (by omega) hc)) (fun hc => absurd (by omega) hc))) (fun hc => absurd (by omega) hc)) (fun hc => absurd (by omega) hc)), rfl, fun x hx => (gU_o (by omega)).trans ((gU_o (by omega)).trans ((gU_o (by omega)).trans ((gU_o (by omega)).trans ((gU_o (by omega)).trans ((gU_o (by omega)).trans ((gU_o (by omega)).trans ((gU_o (by omega)).trans ((gU_o (by omega)).trans ((gU_o (by omega)).trans ((gU_o (by omega)).trans ((gU_o (by omega)).trans ((gU_o (by omega)).trans ((gU_o (by omega)).trans ((gU_o (by omega)).trans ((gU_o (by omega)).trans ((gU_o (by omega)).trans ((gU_o (by omega)).trans ((gU_o (by omega)).trans ((gU_o (by omega)).trans ((gU_o (by omega)).trans ((gU_o (by omega)).trans (gU_o (by omega))))))))))))))))))))))), fun x hx => (gU_o (by omega)).trans ((gU_o (by omega)).trans ((gU_o (by omega)).trans ((gU_o (by omega)).trans ((gU_o (by omega)).trans ((gU_o (by omega)).trans ((gU_o (by omega)).trans ((gU_o (by omega)).trans ((gU_o (by omega)).trans ((gU_o (by omega)).trans ((gU_o (by omega)).trans ((gU_o (by omega)).trans ((gU_o (by omega)).trans ((gU_o (by omega)).trans ((gU_o (by omega)).trans ((gU_o (by omega)).trans ((gU_o (by omega)).trans ((gU_o (by omega)).trans ((gU_o (by omega)).trans ((gU_o (by omega)).trans ((gU_o (by omega)).trans ((gU_o (by omega)).trans (gU_o (by omega))))))))))))))))))))))), fun x hx => rfl⟩
                                  · refine w_lload rfl rfl ?_
                                    refine w_aload rfl rfl ?_
                                    refine w_getLv (x := 218984) rfl rfl (gU_e) ?_
                                    refine w_lmulv (z := 656952) rfl (by decide) ?_
                                    refine w_pushL rfl ?_
                                    refine w_lload rfl rfl ?_
                                    refine w_lsubv (z := 9) rfl (by decide) ?_
                                    refine w_lload rfl rfl ?_
                                    refine w_lmulv (z := 1430856) rfl (by decide) ?_
                                    refine w_laddv (z := 2087808) rfl (by decide) ?_
                                    refine w_pushL rfl ?_
                                    refine w_ldivv (z := 173984) rfl (by decide) (by decide) ?_
                                    refine w_lstore rfl rfl ?_
                                    refine w_aload rfl rfl ?_
                                    refine w_pushL rfl ?_
                                    refine w_iload rfl rfl ?_
                                    refine w_i2lv (z := 20) rfl (by decide) ?_
                                    refine w_lmulv (z := 20000) rfl (by decide) ?_
                                    refine w_aload rfl rfl ?_
                                    refine w_getLv (x := 218984) rfl rfl (gU_e) ?_
                                    refine w_laddv (z := 238984) rfl (by decide) ?_
                                    refine w_lload rfl rfl ?_
                                    refine w_lload rfl rfl ?_
                                    refine w_laddv (z := 233984) rfl (by decide) ?_
                                    refine w_lload rfl rfl ?_
                                    refine w_lload rfl rfl ?_
                                    refine w_laddv (z := 263984) rfl (by decide) ?_
                                    refine w_callVi (As := [_, _, _]) (le := [some _, some _, none, some _, none, some _, none]) rfl rfl rfl (by decide) (Nat.le_of_ble_eq_true rfl) rfl ?_
                                    refine w_aload rfl rfl ?_
                                    refine w_lload rfl rfl ?_
                                    refine w_putL rfl rfl ?_
                                    refine w_aload rfl rfl ?_
                                    refine w_pushI rfl ?_
                                    refine w_putI rfl rfl ?_
                                    refine w_lload rfl rfl ?_
                                    refine w_aload rfl rfl ?_
                                    refine w_getLv (x := 238984) rfl rfl (gU_e) ?_
                                    refine w_lcmpv (z := (-1)) rfl (by decide) ?_
                                    refine w_if_ge rfl (fun h => absurd h (by decide)) (fun _ => ?_)
                                    refine w_aload rfl rfl ?_
                                    refine w_lload rfl rfl ?_
                                    refine w_putL rfl rfl ?_
                                    refine w_aload rfl rfl ?_
                                    refine w_pushI rfl ?_
                                    refine w_putI rfl rfl ?_
                                    refine w_lload rfl rfl ?_
                                    refine w_aload rfl rfl ?_
                                    refine w_getLv (x := 233984) rfl rfl (gU_e) ?_
                                    refine w_lcmpv (z := 1) rfl (by decide) ?_
                                    refine w_if_ge rfl (fun _ => ?_) (fun h => absurd (by decide) h)
                                    refine w_vret rfl rfl ?_
                                    show gW _ _ _ _ _ _ _ _ _ _
                                    refine w_iincv (z := 14) rfl rfl (by decide) rfl ?_
                                    refine w_goto rfl ?_
                                    refine w_iload rfl rfl ?_
                                    refine w_iload rfl rfl ?_
                                    refine w_icmp_geZ (a := 14) rfl (by decide) rfl (fun h19 => ?_) (fun h19 => ?_)
                                    · obtain rfl : a = 14 := i_is (show a.toInt = 14 by omega) (by decide)
                                      refine w_vret rfl rfl ?_
                                      show gW _ _ _ _ _ _ _ _ _ _
                                      refine w_iload rfl rfl ?_
                                      refine w_topv (z := 0) (by decide) ?_
                                      refine w_if_ne rfl (fun h => absurd (by decide) h) (fun _ => ?_)
                                      refine w_aload rfl rfl ?_
                                      refine w_getR (r := 22) rfl rfl (hR _ fmR_0_5) ?_
                                      refine w_getLv (x := 233984) rfl rfl (gU_e) ?_
                                      refine w_l2iv (z := 233984) rfl (by decide) ?_
                                      refine w_goto rfl ?_
                                      refine w_iret rfl (Or.inl rfl) ?_
                                      exact ⟨congrArg (fun v => some (Value.int v)) (show (233984 : Int32) = f1_buy (14) (0) by have e0 : (14 : Int32).toInt = 14 := rfl; have e1 : (0 : Int32).toInt = 0 := rfl; exact ite_eq_of (fun _ => ite_eq_of (fun _ => ite_eq_of (fun hc => absurd hc (by omega)) (fun _ => ite_eq_of (fun _ => ite_eq_of (fun hc => absurd hc (by omega)) (fun _ => ite_eq_of (fun _ => rfl) (fun hc => absurd (by omega) hc))) (fun hc => absurd (by omega) hc))) (fun hc => absurd (by omega) hc)) (fun hc => absurd (by omega) hc)), rfl, fun x hx => (gU_o (by omega)).trans ((gU_o (by omega)).trans ((gU_o (by omega)).trans ((gU_o (by omega)).trans ((gU_o (by omega)).trans ((gU_o (by omega)).trans ((gU_o (by omega)).trans ((gU_o (by omega)).trans ((gU_o (by omega)).trans ((gU_o (by omega)).trans ((gU_o (by omega)).trans ((gU_o (by omega)).trans ((gU_o (by omega)).trans ((gU_o (by omega)).trans ((gU_o (by omega)).trans ((gU_o (by omega)).trans ((gU_o (by omega)).trans ((gU_o (by omega)).trans ((gU_o (by omega)).trans ((gU_o (by omega)).trans ((gU_o (by omega)).trans ((gU_o (by omega)).trans ((gU_o (by omega)).trans ((gU_o (by omega)).trans (gU_o (by omega))))))))))))))))))))))))), fun x hx => (gU_o (by omega)).trans ((gU_o (by omega)).trans ((gU_o (by omega)).trans ((gU_o (by omega)).trans ((gU_o (by omega)).trans ((gU_o (by omega)).trans ((gU_o (by omega)).trans ((gU_o (by omega)).trans ((gU_o (by omega)).trans ((gU_o (by omega)).trans ((gU_o (by omega)).trans ((gU_o (by omega)).trans ((gU_o (by omega)).trans ((gU_o (by omega)).trans ((gU_o (by omega)).trans ((gU_o (by omega)).trans ((gU_o (by omega)).trans ((gU_o (by omega)).trans ((gU_o (by omega)).trans ((gU_o (by omega)).trans ((gU_o (by omega)).trans ((gU_o (by omega)).trans ((gU_o (by omega)).trans ((gU_o (by omega)).trans (gU_o (by omega))))))))))))))))))))))))), fun x hx => rfl⟩
                                    · refine w_lload rfl rfl ?_
                                      refine w_aload rfl rfl ?_
                                      refine w_getLv (x := 233984) rfl rfl (gU_e) ?_
                                      refine w_lmulv (z := 701952) rfl (by decide) ?_
                                      refine w_pushL rfl ?_
                                      refine w_lload rfl rfl ?_
                                      refine w_lsubv (z := 9) rfl (by decide) ?_
                                      refine w_lload rfl rfl ?_
                                      refine w_lmulv (z := 1565856) rfl (by decide) ?_
                                      refine w_laddv (z := 2267808) rfl (by decide) ?_
                                      refine w_pushL rfl ?_
                                      refine w_ldivv (z := 188984) rfl (by decide) (by decide) ?_
                                      refine w_lstore rfl rfl ?_
                                      refine w_aload rfl rfl ?_
                                      refine w_pushL rfl ?_
                                      refine w_iload rfl rfl ?_
                                      refine w_i2lv (z := 20) rfl (by decide) ?_
                                      refine w_lmulv (z := 20000) rfl (by decide) ?_
                                      refine w_aload rfl rfl ?_
                                      refine w_getLv (x := 233984) rfl rfl (gU_e) ?_
                                      refine w_laddv (z := 253984) rfl (by decide) ?_
                                      refine w_lload rfl rfl ?_
                                      refine w_lload rfl rfl ?_
                                      refine w_laddv (z := 248984) rfl (by decide) ?_
                                      refine w_lload rfl rfl ?_
                                      refine w_lload rfl rfl ?_
                                      refine w_laddv (z := 278984) rfl (by decide) ?_
                                      refine w_callVi (As := [_, _, _]) (le := [some _, some _, none, some _, none, some _, none]) rfl rfl rfl (by decide) (Nat.le_of_ble_eq_true rfl) rfl ?_
                                      refine w_aload rfl rfl ?_
                                      refine w_lload rfl rfl ?_
                                      refine w_putL rfl rfl ?_
                                      refine w_aload rfl rfl ?_
                                      refine w_pushI rfl ?_
                                      refine w_putI rfl rfl ?_
                                      refine w_lload rfl rfl ?_
                                      refine w_aload rfl rfl ?_
                                      refine w_getLv (x := 253984) rfl rfl (gU_e) ?_
                                      refine w_lcmpv (z := (-1)) rfl (by decide) ?_
                                      refine w_if_ge rfl (fun h => absurd h (by decide)) (fun _ => ?_)
                                      refine w_aload rfl rfl ?_
                                      refine w_lload rfl rfl ?_
                                      refine w_putL rfl rfl ?_
                                      refine w_aload rfl rfl ?_
                                      refine w_pushI rfl ?_
                                      refine w_putI rfl rfl ?_
                                      refine w_lload rfl rfl ?_
                                      refine w_aload rfl rfl ?_
                                      refine w_getLv (x := 248984) rfl rfl (gU_e) ?_
                                      refine w_lcmpv (z := 1) rfl (by decide) ?_
                                      refine w_if_ge rfl (fun _ => ?_) (fun h => absurd (by decide) h)
                                      refine w_vret rfl rfl ?_
                                      show gW _ _ _ _ _ _ _ _ _ _
                                      refine w_iincv (z := 15) rfl rfl (by decide) rfl ?_
                                      refine w_goto rfl ?_
                                      refine w_iload rfl rfl ?_
                                      refine w_iload rfl rfl ?_
                                      refine w_icmp_geZ (a := 15) rfl (by decide) rfl (fun h20 => ?_) (fun h20 => ?_)
                                      · obtain rfl : a = 15 := i_is (show a.toInt = 15 by omega) (by decide)
                                        refine w_vret rfl rfl ?_
                                        show gW _ _ _ _ _ _ _ _ _ _
                                        refine w_iload rfl rfl ?_
                                        refine w_topv (z := 0) (by decide) ?_
                                        refine w_if_ne rfl (fun h => absurd (by decide) h) (fun _ => ?_)
                                        refine w_aload rfl rfl ?_
                                        refine w_getR (r := 22) rfl rfl (hR _ fmR_0_5) ?_
                                        refine w_getLv (x := 248984) rfl rfl (gU_e) ?_
                                        refine w_l2iv (z := 248984) rfl (by decide) ?_
                                        refine w_goto rfl ?_
                                        refine w_iret rfl (Or.inl rfl) ?_
                                        exact ⟨congrArg (fun v => some (Value.int v)) (show (248984 : Int32) = f1_buy (15) (0) by have e0 : (15 : Int32).toInt = 15 := rfl; have e1 : (0 : Int32).toInt = 0 := rfl; exact ite_eq_of (fun _ => ite_eq_of (fun _ => ite_eq_of (fun hc => absurd hc (by omega)) (fun _ => ite_eq_of (fun _ => ite_eq_of (fun hc => absurd hc (by omega)) (fun _ => ite_eq_of (fun hc => absurd hc (by omega)) (fun _ => rfl))) (fun hc => absurd (by omega) hc))) (fun hc => absurd (by omega) hc)) (fun hc => absurd (by omega) hc)), rfl, fun x hx => (gU_o (by omega)).trans ((gU_o (by omega)).trans ((gU_o (by omega)).trans ((gU_o (by omega)).trans ((gU_o (by omega)).trans ((gU_o (by omega)).trans ((gU_o (by omega)).trans ((gU_o (by omega)).trans ((gU_o (by omega)).trans ((gU_o (by omega)).trans ((gU_o (by omega)).trans ((gU_o (by omega)).trans ((gU_o (by omega)).trans ((gU_o (by omega)).trans ((gU_o (by omega)).trans ((gU_o (by omega)).trans ((gU_o (by omega)).trans ((gU_o (by omega)).trans ((gU_o (by omega)).trans ((gU_o (by omega)).trans ((gU_o (by omega)).trans ((gU_o (by omega)).trans ((gU_o (by omega)).trans ((gU_o (by omega)).trans ((gU_o (by omega)).trans ((gU_o (by omega)).trans (gU_o (by omega))))))))))))))))))))))))))), fun x hx => (gU_o (by omega)).trans ((gU_o (by omega)).trans ((gU_o (by omega)).trans ((gU_o (by omega)).trans ((gU_o (by omega)).trans ((gU_o (by omega)).trans ((gU_o (by omega)).trans ((gU_o (by omega)).trans ((gU_o (by omega)).trans ((gU_o (by omega)).trans ((gU_o (by omega)).trans ((gU_o (by omega)).trans ((gU_o (by omega)).trans ((gU_o (by omega)).trans ((gU_o (by omega)).trans ((gU_o (by omega)).trans ((gU_o (by omega)).trans ((gU_o (by omega)).trans ((gU_o (by omega)).trans ((gU_o (by omega)).trans ((gU_o (by omega)).trans ((gU_o (by omega)).trans ((gU_o (by omega)).trans ((gU_o (by omega)).trans ((gU_o (by omega)).trans ((gU_o (by omega)).trans (gU_o (by omega))))))))))))))))))))))))))), fun x hx => rfl⟩
                                      · refine w_lload rfl rfl ?_
                                        refine w_aload rfl rfl ?_
                                        refine w_getLv (x := 248984) rfl rfl (gU_e) ?_
                                        refine w_lmulv (z := 746952) rfl (by decide) ?_
                                        refine w_pushL rfl ?_
                                        refine w_lload rfl rfl ?_
                                        refine w_lsubv (z := 9) rfl (by decide) ?_
                                        refine w_lload rfl rfl ?_
                                        refine w_lmulv (z := 1700856) rfl (by decide) ?_
                                        refine w_laddv (z := 2447808) rfl (by decide) ?_
                                        refine w_pushL rfl ?_
                                        refine w_ldivv (z := 203984) rfl (by decide) (by decide) ?_
                                        refine w_lstore rfl rfl ?_
                                        refine w_aload rfl rfl ?_
                                        refine w_pushL rfl ?_
                                        refine w_iload rfl rfl ?_
                                        refine w_i2lv (z := 20) rfl (by decide) ?_
                                        refine w_lmulv (z := 20000) rfl (by decide) ?_
                                        refine w_aload rfl rfl ?_
                                        refine w_getLv (x := 248984) rfl rfl (gU_e) ?_
                                        refine w_laddv (z := 268984) rfl (by decide) ?_
                                        refine w_lload rfl rfl ?_
                                        refine w_lload rfl rfl ?_
                                        refine w_laddv (z := 263984) rfl (by decide) ?_
                                        refine w_lload rfl rfl ?_
                                        refine w_lload rfl rfl ?_
                                        refine w_laddv (z := 293984) rfl (by decide) ?_
                                        refine w_callVi (As := [_, _, _]) (le := [some _, some _, none, some _, none, some _, none]) rfl rfl rfl (by decide) (Nat.le_of_ble_eq_true rfl) rfl ?_
                                        refine w_aload rfl rfl ?_
                                        refine w_lload rfl rfl ?_
                                        refine w_putL rfl rfl ?_
                                        refine w_aload rfl rfl ?_
                                        refine w_pushI rfl ?_
                                        refine w_putI rfl rfl ?_
                                        refine w_lload rfl rfl ?_
                                        refine w_aload rfl rfl ?_
                                        refine w_getLv (x := 268984) rfl rfl (gU_e) ?_
                                        refine w_lcmpv (z := (-1)) rfl (by decide) ?_
                                        refine w_if_ge rfl (fun h => absurd h (by decide)) (fun _ => ?_)
                                        refine w_aload rfl rfl ?_
                                        refine w_lload rfl rfl ?_
                                        refine w_putL rfl rfl ?_
                                        refine w_aload rfl rfl ?_
                                        refine w_pushI rfl ?_
                                        refine w_putI rfl rfl ?_
                                        refine w_lload rfl rfl ?_
                                        refine w_aload rfl rfl ?_
                                        refine w_getLv (x := 263984) rfl rfl (gU_e) ?_
                                        refine w_lcmpv (z := 1) rfl (by decide) ?_
                                        refine w_if_ge rfl (fun _ => ?_) (fun h => absurd (by decide) h)
                                        refine w_vret rfl rfl ?_
                                        show gW _ _ _ _ _ _ _ _ _ _
                                        refine w_iincv (z := 16) rfl rfl (by decide) rfl ?_
                                        refine w_goto rfl ?_
                                        refine w_iload rfl rfl ?_
                                        refine w_iload rfl rfl ?_
                                        refine w_icmp_geZ (a := 16) rfl (by decide) rfl (fun h21 => ?_) (fun h21 => ?_)
                                        · obtain rfl : a = 16 := i_is (show a.toInt = 16 by omega) (by decide)
                                          refine w_vret rfl rfl ?_
                                          show gW _ _ _ _ _ _ _ _ _ _
                                          refine w_iload rfl rfl ?_
                                          refine w_topv (z := 0) (by decide) ?_
                                          refine w_if_ne rfl (fun h => absurd (by decide) h) (fun _ => ?_)
                                          refine w_aload rfl rfl ?_
                                          refine w_getR (r := 22) rfl rfl (hR _ fmR_0_5) ?_
                                          refine w_getLv (x := 263984) rfl rfl (gU_e) ?_
                                          refine w_l2iv (z := 263984) rfl (by decide) ?_
                                          refine w_goto rfl ?_
                                          refine w_iret rfl (Or.inl rfl) ?_
                                          exact ⟨congrArg (fun v => some (Value.int v)) (show (263984 : Int32) = f1_buy (16) (0) by have e0 : (16 : Int32).toInt = 16 := rfl; have e1 : (0 : Int32).toInt = 0 := rfl; exact ite_eq_of (fun _ => ite_eq_of (fun _ => ite_eq_of (fun hc => absurd hc (by omega)) (fun _ => ite_eq_of (fun hc => absurd hc (by omega)) (fun _ => ite_eq_of (fun _ => ite_eq_of (fun _ => ite_eq_of (fun _ => rfl) (fun hc => absurd (by omega) hc)) (fun hc => absurd (by omega) hc)) (fun hc => absurd (by omega) hc)))) (fun hc => absurd (by omega) hc)) (fun hc => absurd (by omega) hc)), rfl, fun x hx => (gU_o (by omega)).trans ((gU_o (by omega)).trans ((gU_o (by omega)).trans ((gU_o (by omega)).trans ((gU_o (by omega)).trans ((gU_o (by omega)).trans ((gU_o (by omega)).trans ((gU_o (by omega)).trans ((gU_o (by omega)).trans ((gU_o (by omega)).trans ((gU_o (by omega)).trans ((gU_o (by omega)).trans ((gU_o (by omega)).trans ((gU_o (by omega)).trans ((gU_o (by omega)).trans ((gU_o (by omega)).trans ((gU_o (by omega)).trans ((gU_o (by omega)).trans ((gU_o (by omega)).trans ((gU_o (by omega)).trans ((gU_o (by omega)).trans ((gU_o (by omega)).trans ((gU_o (by omega)).trans ((gU_o (by omega)).trans ((gU_o (by omega)).trans ((gU_o (by omega)).trans ((gU_o (by omega)).trans ((gU_o (by omega)).trans (gU_o (by omega))))))))))))))))))))))))))))), fun x hx => (gU_o (by omega)).trans ((gU_o (by omega)).trans ((gU_o (by omega)).trans ((gU_o (by omega)).trans ((gU_o (by omega)).trans ((gU_o (by omega)).trans ((gU_o (by omega)).trans ((gU_o (by omega)).trans ((gU_o (by omega)).trans ((gU_o (by omega)).trans ((gU_o (by omega)).trans ((gU_o (by omega)).trans ((gU_o (by omega)).trans ((gU_o (by omega)).trans ((gU_o (by omega)).trans ((gU_o (by omega)).trans ((gU_o (by omega)).trans ((gU_o (by omega)).trans ((gU_o (by omega)).trans ((gU_o (by omega)).trans ((gU_o (by omega)).trans ((gU_o (by omega)).trans ((gU_o (by omega)).trans ((gU_o (by omega)).trans ((gU_o (by omega)).trans ((gU_o (by omega)).trans ((gU_o (by omega)).trans ((gU_o (by omega)).trans (gU_o (by omega))))))))))))))))))))))))))))), fun x hx => rfl⟩
                                        · refine w_lload rfl rfl ?_
                                          refine w_aload rfl rfl ?_
                                          refine w_getLv (x := 263984) rfl rfl (gU_e) ?_
                                          refine w_lmulv (z := 791952) rfl (by decide) ?_
                                          refine w_pushL rfl ?_
                                          refine w_lload rfl rfl ?_
                                          refine w_lsubv (z := 9) rfl (by decide) ?_
                                          refine w_lload rfl rfl ?_
                                          refine w_lmulv (z := 1835856) rfl (by decide) ?_
                                          refine w_laddv (z := 2627808) rfl (by decide) ?_
                                          refine w_pushL rfl ?_
                                          refine w_ldivv (z := 218984) rfl (by decide) (by decide) ?_
                                          refine w_lstore rfl rfl ?_
                                          refine w_aload rfl rfl ?_
                                          refine w_pushL rfl ?_
                                          refine w_iload rfl rfl ?_
                                          refine w_i2lv (z := 20) rfl (by decide) ?_
                                          refine w_lmulv (z := 20000) rfl (by decide) ?_
                                          refine w_aload rfl rfl ?_
                                          refine w_getLv (x := 263984) rfl rfl (gU_e) ?_
                                          refine w_laddv (z := 283984) rfl (by decide) ?_
                                          refine w_lload rfl rfl ?_
                                          refine w_lload rfl rfl ?_
                                          refine w_laddv (z := 278984) rfl (by decide) ?_
                                          refine w_lload rfl rfl ?_
                                          refine w_lload rfl rfl ?_
                                          refine w_laddv (z := 308984) rfl (by decide) ?_
                                          refine w_callVi (As := [_, _, _]) (le := [some _, some _, none, some _, none, some _, none]) rfl rfl rfl (by decide) (Nat.le_of_ble_eq_true rfl) rfl ?_
                                          refine w_aload rfl rfl ?_
                                          refine w_lload rfl rfl ?_
                                          refine w_putL rfl rfl ?_
                                          refine w_aload rfl rfl ?_
                                          refine w_pushI rfl ?_
                                          refine w_putI rfl rfl ?_
                                          refine w_lload rfl rfl ?_
                                          refine w_aload rfl rfl ?_
                                          refine w_getLv (x := 283984) rfl rfl (gU_e) ?_
                                          refine w_lcmpv (z := (-1)) rfl (by decide) ?_
                                          refine w_if_ge rfl (fun h => absurd h (by decide)) (fun _ => ?_)
                                          refine w_aload rfl rfl ?_
                                          refine w_lload rfl rfl ?_
                                          refine w_putL rfl rfl ?_
                                          refine w_aload rfl rfl ?_
                                          refine w_pushI rfl ?_
                                          refine w_putI rfl rfl ?_
                                          refine w_lload rfl rfl ?_
                                          refine w_aload rfl rfl ?_
                                          refine w_getLv (x := 278984) rfl rfl (gU_e) ?_
                                          refine w_lcmpv (z := 1) rfl (by decide) ?_
                                          refine w_if_ge rfl (fun _ => ?_) (fun h => absurd (by decide) h)
                                          refine w_vret rfl rfl ?_
                                          show gW _ _ _ _ _ _ _ _ _ _
                                          refine w_iincv (z := 17) rfl rfl (by decide) rfl ?_
                                          refine w_goto rfl ?_
                                          refine w_iload rfl rfl ?_
                                          refine w_iload rfl rfl ?_
                                          refine w_icmp_geZ (a := 17) rfl (by decide) rfl (fun h22 => ?_) (fun h22 => ?_)
                                          · obtain rfl : a = 17 := i_is (show a.toInt = 17 by omega) (by decide)
                                            refine w_vret rfl rfl ?_
                                            show gW _ _ _ _ _ _ _ _ _ _
                                            refine w_iload rfl rfl ?_
                                            refine w_topv (z := 0) (by decide) ?_
                                            refine w_if_ne rfl (fun h => absurd (by decide) h) (fun _ => ?_)
                                            refine w_aload rfl rfl ?_
                                            refine w_getR (r := 22) rfl rfl (hR _ fmR_0_5) ?_
                                            refine w_getLv (x := 278984) rfl rfl (gU_e) ?_
                                            refine w_l2iv (z := 278984) rfl (by decide) ?_
                                            refine w_goto rfl ?_
                                            refine w_iret rfl (Or.inl rfl) ?_
                                            exact ⟨congrArg (fun v => some (Value.int v)) (show (278984 : Int32) = f1_buy (17) (0) by have e0 : (17 : Int32).toInt = 17 := rfl; have e1 : (0 : Int32).toInt = 0 := rfl; exact ite_eq_of (fun _ => ite_eq_of (fun _ => ite_eq_of (fun hc => absurd hc (by omega)) (fun _ => ite_eq_of (fun hc => absurd hc (by omega)) (fun _ => ite_eq_of (fun _ => ite_eq_of (fun _ => ite_eq_of (fun hc => absurd hc (by omega)) (fun _ => rfl)) (fun hc => absurd (by omega) hc)) (fun hc => absurd (by omega) hc)))) (fun hc => absurd (by omega) hc)) (fun hc => absurd (by omega) hc)), rfl, fun x hx => (gU_o (by omega)).trans ((gU_o (by omega)).trans ((gU_o (by omega)).trans ((gU_o (by omega)).trans ((gU_o (by omega)).trans ((gU_o (by omega)).trans ((gU_o (by omega)).trans ((gU_o (by omega)).trans ((gU_o (by omega)).trans ((gU_o (by omega)).trans ((gU_o (by omega)).trans ((gU_o (by omega)).trans ((gU_o (by omega)).trans ((gU_o (by omega)).trans ((gU_o (by omega)).trans ((gU_o (by omega)).trans ((gU_o (by omega)).trans ((gU_o (by omega)).trans ((gU_o (by omega)).trans ((gU_o (by omega)).trans ((gU_o (by omega)).trans ((gU_o (by omega)).trans ((gU_o (by omega)).trans ((gU_o (by omega)).trans ((gU_o (by omega)).trans ((gU_o (by omega)).trans ((gU_o (by omega)).trans ((gU_o (by omega)).trans ((gU_o (by omega)).trans ((gU_o (by omega)).trans (gU_o (by omega))))))))))))))))))))))))))))))), fun x hx => (gU_o (by omega)).trans ((gU_o (by omega)).trans ((gU_o (by omega)).trans ((gU_o (by omega)).trans ((gU_o (by omega)).trans ((gU_o (by omega)).trans ((gU_o (by omega)).trans ((gU_o (by omega)).trans ((gU_o (by omega)).trans ((gU_o (by omega)).trans ((gU_o (by omega)).trans ((gU_o (by omega)).trans ((gU_o (by omega)).trans ((gU_o (by omega)).trans ((gU_o (by omega)).trans ((gU_o (by omega)).trans ((gU_o (by omega)).trans ((gU_o (by omega)).trans ((gU_o (by omega)).trans ((gU_o (by omega)).trans ((gU_o (by omega)).trans ((gU_o (by omega)).trans ((gU_o (by omega)).trans ((gU_o (by omega)).trans ((gU_o (by omega)).trans ((gU_o (by omega)).trans ((gU_o (by omega)).trans ((gU_o (by omega)).trans ((gU_o (by omega)).trans ((gU_o (by omega)).trans (gU_o (by omega))))))))))))))))))))))))))))))), fun x hx => rfl⟩
                                          · refine w_lload rfl rfl ?_
                                            refine w_aload rfl rfl ?_
                                            refine w_getLv (x := 278984) rfl rfl (gU_e) ?_
                                            refine w_lmulv (z := 836952) rfl (by decide) ?_
                                            refine w_pushL rfl ?_
                                            refine w_lload rfl rfl ?_
                                            refine w_lsubv (z := 9) rfl (by decide) ?_
                                            refine w_lload rfl rfl ?_
                                            refine w_lmulv (z := 1970856) rfl (by decide) ?_
                                            refine w_laddv (z := 2807808) rfl (by decide) ?_
                                            refine w_pushL rfl ?_
                                            refine w_ldivv (z := 233984) rfl (by decide) (by decide) ?_
                                            refine w_lstore rfl rfl ?_
                                            refine w_aload rfl rfl ?_
                                            refine w_pushL rfl ?_
                                            refine w_iload rfl rfl ?_
                                            refine w_i2lv (z := 20) rfl (by decide) ?_
                                            refine w_lmulv (z := 20000) rfl (by decide) ?_
                                            refine w_aload rfl rfl ?_
                                            refine w_getLv (x := 278984) rfl rfl (gU_e) ?_
                                            refine w_laddv (z := 298984) rfl (by decide) ?_
                                            refine w_lload rfl rfl ?_
                                            refine w_lload rfl rfl ?_
                                            refine w_laddv (z := 293984) rfl (by decide) ?_
                                            refine w_lload rfl rfl ?_
                                            refine w_lload rfl rfl ?_
                                            refine w_laddv (z := 323984) rfl (by decide) ?_
                                            refine w_callVi (As := [_, _, _]) (le := [some _, some _, none, some _, none, some _, none]) rfl rfl rfl (by decide) (Nat.le_of_ble_eq_true rfl) rfl ?_
                                            refine w_aload rfl rfl ?_
                                            refine w_lload rfl rfl ?_
                                            refine w_putL rfl rfl ?_
                                            refine w_aload rfl rfl ?_
                                            refine w_pushI rfl ?_
                                            refine w_putI rfl rfl ?_
                                            refine w_lload rfl rfl ?_
                                            refine w_aload rfl rfl ?_
                                            refine w_getLv (x := 298984) rfl rfl (gU_e) ?_
                                            refine w_lcmpv (z := (-1)) rfl (by decide) ?_
                                            refine w_if_ge rfl (fun h => absurd h (by decide)) (fun _ => ?_)
                                            refine w_aload rfl rfl ?_
                                            refine w_lload rfl rfl ?_
                                            refine w_putL rfl rfl ?_
                                            refine w_aload rfl rfl ?_
                                            refine w_pushI rfl ?_
                                            refine w_putI rfl rfl ?_
                                            refine w_lload rfl rfl ?_
                                            refine w_aload rfl rfl ?_
                                            refine w_getLv (x := 293984) rfl rfl (gU_e) ?_
                                            refine w_lcmpv (z := 1) rfl (by decide) ?_
                                            refine w_if_ge rfl (fun _ => ?_) (fun h => absurd (by decide) h)
                                            refine w_vret rfl rfl ?_
                                            show gW _ _ _ _ _ _ _ _ _ _
                                            refine w_iincv (z := 18) rfl rfl (by decide) rfl ?_
                                            refine w_goto rfl ?_
                                            refine w_iload rfl rfl ?_
                                            refine w_iload rfl rfl ?_
                                            refine w_icmp_geZ (a := 18) rfl (by decide) rfl (fun h23 => ?_) (fun h23 => ?_)
                                            · obtain rfl : a = 18 := i_is (show a.toInt = 18 by omega) (by decide)
                                              refine w_vret rfl rfl ?_
                                              show gW _ _ _ _ _ _ _ _ _ _
                                              refine w_iload rfl rfl ?_
                                              refine w_topv (z := 0) (by decide) ?_
                                              refine w_if_ne rfl (fun h => absurd (by decide) h) (fun _ => ?_)
                                              refine w_aload rfl rfl ?_
                                              refine w_getR (r := 22) rfl rfl (hR _ fmR_0_5) ?_
                                              refine w_getLv (x := 293984) rfl rfl (gU_e) ?_
                                              refine w_l2iv (z := 293984) rfl (by decide) ?_
                                              refine w_goto rfl ?_
                                              refine w_iret rfl (Or.inl rfl) ?_
                                              exact ⟨congrArg (fun v => some (Value.int v)) (show (293984 : Int32) = f1_buy (18) (0) by have e0 : (18 : Int32).toInt = 18 := rfl; have e1 : (0 : Int32).toInt = 0 := rfl; exact ite_eq_of (fun _ => ite_eq_of (fun _ => ite_eq_of (fun hc => absurd hc (by omega)) (fun _ => ite_eq_of (fun hc => absurd hc (by omega)) (fun _ => ite_eq_of (fun _ => ite_eq_of (fun hc => absurd hc (by omega)) (fun _ => rfl)) (fun hc => absurd (by omega) hc)))) (fun hc => absurd (by omega) hc)) (fun hc => absurd (by omega) hc)), rfl, fun x hx => (gU_o (by omega)).trans ((gU_o (by omega)).trans ((gU_o (by omega)).trans ((gU_o (by omega)).trans ((gU_o (by omega)).trans ((gU_o (by omega)).trans ((gU_o (by omega)).trans ((gU_o (by omega)).trans ((gU_o (by omega)).trans ((gU_o (by omega)).trans ((gU_o (by omega)).trans ((gU_o (by omega)).trans ((gU_o (by omega)).trans ((gU_o (by omega)).trans ((gU_o (by omega)).trans ((gU_o (by omega)).trans ((gU_o (by omega)).trans ((gU_o (by omega)).trans ((gU_o (by omega)).trans ((gU_o (by omega)).trans ((gU_o (by omega)).trans ((gU_o (by omega)).trans ((gU_o (by omega)).trans ((gU_o (by omega)).trans ((gU_o (by omega)).trans ((gU_o (by omega)).trans ((gU_o (by omega)).trans ((gU_o (by omega)).trans ((gU_o (by omega)).trans ((gU_o (by omega)).trans ((gU_o (by omega)).trans ((gU_o (by omega)).trans (gU_o (by omega))))))))))))))))))))))))))))))))), fun x hx => (gU_o (by omega)).trans ((gU_o (by omega)).trans ((gU_o (by omega)).trans ((gU_o (by omega)).trans ((gU_o (by omega)).trans ((gU_o (by omega)).trans ((gU_o (by omega)).trans ((gU_o (by omega)).trans ((gU_o (by omega)).trans ((gU_o (by omega)).trans ((gU_o (by omega)).trans ((gU_o (by omega)).trans ((gU_o (by omega)).trans ((gU_o (by omega)).trans ((gU_o (by omega)).trans ((gU_o (by omega)).trans ((gU_o (by omega)).trans ((gU_o (by omega)).trans ((gU_o (by omega)).trans ((gU_o (by omega)).trans ((gU_o (by omega)).trans ((gU_o (by omega)).trans ((gU_o (by omega)).trans ((gU_o (by omega)).trans ((gU_o (by omega)).trans ((gU_o (by omega)).trans ((gU_o (by omega)).trans ((gU_o (by omega)).trans ((gU_o (by omega)).trans ((gU_o (by omega)).trans ((gU_o (by omega)).trans ((gU_o (by omega)).trans (gU_o (by omega))))))))))))))))))))))))))))))))), fun x hx => rfl⟩
                                            · refine w_lload rfl rfl ?_
                                              refine w_aload rfl rfl ?_
                                              refine w_getLv (x := 293984) rfl rfl (gU_e) ?_
                                              refine w_lmulv (z := 881952) rfl (by decide) ?_
                                              refine w_pushL rfl ?_
                                              refine w_lload rfl rfl ?_
                                              refine w_lsubv (z := 9) rfl (by decide) ?_
                                              refine w_lload rfl rfl ?_
                                              refine w_lmulv (z := 2105856) rfl (by decide) ?_
                                              refine w_laddv (z := 2987808) rfl (by decide) ?_
                                              refine w_pushL rfl ?_
                                              refine w_ldivv (z := 248984) rfl (by decide) (by decide) ?_
                                              refine w_lstore rfl rfl ?_
                                              refine w_aload rfl rfl ?_
                                              refine w_pushL rfl ?_
                                              refine w_iload rfl rfl ?_
                                              refine w_i2lv (z := 20) rfl (by decide) ?_
                                              refine w_lmulv (z := 20000) rfl (by decide) ?_
                                              refine w_aload rfl rfl ?_
                                              refine w_getLv (x := 293984) rfl rfl (gU_e) ?_
                                              refine w_laddv (z := 313984) rfl (by decide) ?_
                                              refine w_lload rfl rfl ?_
                                              refine w_lload rfl rfl ?_
                                              refine w_laddv (z := 308984) rfl (by decide) ?_
                                              refine w_lload rfl rfl ?_
                                              refine w_lload rfl rfl ?_
                                              refine w_laddv (z := 338984) rfl (by decide) ?_
                                              refine w_callVi (As := [_, _, _]) (le := [some _, some _, none, some _, none, some _, none]) rfl rfl rfl (by decide) (Nat.le_of_ble_eq_true rfl) rfl ?_
                                              refine w_aload rfl rfl ?_
                                              refine w_lload rfl rfl ?_
                                              refine w_putL rfl rfl ?_
                                              refine w_aload rfl rfl ?_
                                              refine w_pushI rfl ?_
                                              refine w_putI rfl rfl ?_
                                              refine w_lload rfl rfl ?_
                                              refine w_aload rfl rfl ?_
                                              refine w_getLv (x := 313984) rfl rfl (gU_e) ?_
                                              refine w_lcmpv (z := (-1)) rfl (by decide) ?_
                                              refine w_if_ge rfl (fun h => absurd h (by decide)) (fun _ => ?_)
                                              refine w_aload rfl rfl ?_
                                              refine w_lload rfl rfl ?_
                                              refine w_putL rfl rfl ?_
                                              refine w_aload rfl rfl ?_
                                              refine w_pushI rfl ?_
                                              refine w_putI rfl rfl ?_
                                              refine w_lload rfl rfl ?_
                                              refine w_aload rfl rfl ?_
                                              refine w_getLv (x := 308984) rfl rfl (gU_e) ?_
                                              refine w_lcmpv (z := 1) rfl (by decide) ?_
                                              refine w_if_ge rfl (fun _ => ?_) (fun h => absurd (by decide) h)
                                              refine w_vret rfl rfl ?_
                                              show gW _ _ _ _ _ _ _ _ _ _
                                              refine w_iincv (z := 19) rfl rfl (by decide) rfl ?_
                                              refine w_goto rfl ?_
                                              refine w_iload rfl rfl ?_
                                              refine w_iload rfl rfl ?_
                                              refine w_icmp_geZ (a := 19) rfl (by decide) rfl (fun h24 => ?_) (fun h24 => ?_)
                                              · obtain rfl : a = 19 := i_is (show a.toInt = 19 by omega) (by decide)
                                                refine w_vret rfl rfl ?_
                                                show gW _ _ _ _ _ _ _ _ _ _
                                                refine w_iload rfl rfl ?_
                                                refine w_topv (z := 0) (by decide) ?_
                                                refine w_if_ne rfl (fun h => absurd (by decide) h) (fun _ => ?_)
                                                refine w_aload rfl rfl ?_
                                                refine w_getR (r := 22) rfl rfl (hR _ fmR_0_5) ?_
                                                refine w_getLv (x := 308984) rfl rfl (gU_e) ?_
                                                refine w_l2iv (z := 308984) rfl (by decide) ?_
                                                refine w_goto rfl ?_
                                                refine w_iret rfl (Or.inl rfl) ?_
                                                exact ⟨congrArg (fun v => some (Value.int v)) (show (308984 : Int32) = f1_buy (19) (0) by have e0 : (19 : Int32).toInt = 19 := rfl; have e1 : (0 : Int32).toInt = 0 := rfl; exact ite_eq_of (fun _ => ite_eq_of (fun _ => ite_eq_of (fun hc => absurd hc (by omega)) (fun _ => ite_eq_of (fun hc => absurd hc (by omega)) (fun _ => ite_eq_of (fun hc => absurd hc (by omega)) (fun _ => ite_eq_of (fun _ => rfl) (fun hc => absurd (by omega) hc))))) (fun hc => absurd (by omega) hc)) (fun hc => absurd (by omega) hc)), rfl, fun x hx => (gU_o (by omega)).trans ((gU_o (by omega)).trans ((gU_o (by omega)).trans ((gU_o (by omega)).trans ((gU_o (by omega)).trans ((gU_o (by omega)).trans ((gU_o (by omega)).trans ((gU_o (by omega)).trans ((gU_o (by omega)).trans ((gU_o (by omega)).trans ((gU_o (by omega)).trans ((gU_o (by omega)).trans ((gU_o (by omega)).trans ((gU_o (by omega)).trans ((gU_o (by omega)).trans ((gU_o (by omega)).trans ((gU_o (by omega)).trans ((gU_o (by omega)).trans ((gU_o (by omega)).trans ((gU_o (by omega)).trans ((gU_o (by omega)).trans ((gU_o (by omega)).trans ((gU_o (by omega)).trans ((gU_o (by omega)).trans ((gU_o (by omega)).trans ((gU_o (by omega)).trans ((gU_o (by omega)).trans ((gU_o (by omega)).trans ((gU_o (by omega)).trans ((gU_o (by omega)).trans ((gU_o (by omega)).trans ((gU_o (by omega)).trans ((gU_o (by omega)).trans ((gU_o (by omega)).trans (gU_o (by omega))))))))))))))))))))))))))))))))))), fun x hx => (gU_o (by omega)).trans ((gU_o (by omega)).trans ((gU_o (by omega)).trans ((gU_o (by omega)).trans ((gU_o (by omega)).trans ((gU_o (by omega)).trans ((gU_o (by omega)).trans ((gU_o (by omega)).trans ((gU_o (by omega)).trans ((gU_o (by omega)).trans ((gU_o (by omega)).trans ((gU_o (by omega)).trans ((gU_o (by omega)).trans ((gU_o (by omega)).trans ((gU_o (by omega)).trans ((gU_o (by omega)).trans ((gU_o (by omega)).trans ((gU_o (by omega)).trans ((gU_o (by omega)).trans ((gU_o (by omega)).trans ((gU_o (by omega)).trans ((gU_o (by omega)).trans ((gU_o (by omega)).trans ((gU_o (by omega)).trans ((gU_o (by omega)).trans ((gU_o (by omega)).trans ((gU_o (by omega)).trans ((gU_o (by omega)).trans ((gU_o (by omega)).trans ((gU_o (by omega)).trans ((gU_o (by omega)).trans ((gU_o (by omega)).trans ((gU_o (by omega)).trans ((gU_o (by omega)).trans (gU_o (by omega))))))))))))))))))))))))))))))))))), fun x hx => rfl⟩
                                              · obtain rfl : a = 20 := i_is (show a.toInt = 20 by omega) (by decide)
                                                refine w_lload rfl rfl ?_
                                                refine w_aload rfl rfl ?_
                                                refine w_getLv (x := 308984) rfl rfl (gU_e) ?_
                                                refine w_lmulv (z := 926952) rfl (by decide) ?_
                                                refine w_pushL rfl ?_
                                                refine w_lload rfl rfl ?_
                                                refine w_lsubv (z := 9) rfl (by decide) ?_
                                                refine w_lload rfl rfl ?_
                                                refine w_lmulv (z := 2240856) rfl (by decide) ?_
                                                refine w_laddv (z := 3167808) rfl (by decide) ?_
                                                refine w_pushL rfl ?_
                                                refine w_ldivv (z := 263984) rfl (by decide) (by decide) ?_
                                                refine w_lstore rfl rfl ?_
                                                refine w_aload rfl rfl ?_
                                                refine w_pushL rfl ?_
                                                refine w_iload rfl rfl ?_
                                                refine w_i2lv (z := 20) rfl (by decide) ?_
                                                refine w_lmulv (z := 20000) rfl (by decide) ?_
                                                refine w_aload rfl rfl ?_
                                                refine w_getLv (x := 308984) rfl rfl (gU_e) ?_
                                                refine w_laddv (z := 328984) rfl (by decide) ?_
                                                refine w_lload rfl rfl ?_
                                                refine w_lload rfl rfl ?_
                                                refine w_laddv (z := 323984) rfl (by decide) ?_
                                                refine w_lload rfl rfl ?_
                                                refine w_lload rfl rfl ?_
                                                refine w_laddv (z := 353984) rfl (by decide) ?_
                                                refine w_callVi (As := [_, _, _]) (le := [some _, some _, none, some _, none, some _, none]) rfl rfl rfl (by decide) (Nat.le_of_ble_eq_true rfl) rfl ?_
                                                refine w_aload rfl rfl ?_
                                                refine w_lload rfl rfl ?_
                                                refine w_putL rfl rfl ?_
                                                refine w_aload rfl rfl ?_
                                                refine w_pushI rfl ?_
                                                refine w_putI rfl rfl ?_
                                                refine w_lload rfl rfl ?_
                                                refine w_aload rfl rfl ?_
                                                refine w_getLv (x := 328984) rfl rfl (gU_e) ?_
                                                refine w_lcmpv (z := (-1)) rfl (by decide) ?_
                                                refine w_if_ge rfl (fun h => absurd h (by decide)) (fun _ => ?_)
                                                refine w_aload rfl rfl ?_
                                                refine w_lload rfl rfl ?_
                                                refine w_putL rfl rfl ?_
                                                refine w_aload rfl rfl ?_
                                                refine w_pushI rfl ?_
                                                refine w_putI rfl rfl ?_
                                                refine w_lload rfl rfl ?_
                                                refine w_aload rfl rfl ?_
                                                refine w_getLv (x := 323984) rfl rfl (gU_e) ?_
                                                refine w_lcmpv (z := 1) rfl (by decide) ?_
                                                refine w_if_ge rfl (fun _ => ?_) (fun h => absurd (by decide) h)
                                                refine w_vret rfl rfl ?_
                                                show gW _ _ _ _ _ _ _ _ _ _
                                                refine w_iincv (z := 20) rfl rfl (by decide) rfl ?_
                                                refine w_goto rfl ?_
                                                refine w_iload rfl rfl ?_
                                                refine w_iload rfl rfl ?_
                                                refine w_topv (z := 20) (by decide) ?_
                                                refine w_icmp_ge rfl (fun _ => ?_) (fun h => absurd (by decide) h)
                                                refine w_vret rfl rfl ?_
                                                show gW _ _ _ _ _ _ _ _ _ _
                                                refine w_iload rfl rfl ?_
                                                refine w_topv (z := 0) (by decide) ?_
                                                refine w_if_ne rfl (fun h => absurd (by decide) h) (fun _ => ?_)
                                                refine w_aload rfl rfl ?_
                                                refine w_getR (r := 22) rfl rfl (hR _ fmR_0_5) ?_
                                                refine w_getLv (x := 323984) rfl rfl (gU_e) ?_
                                                refine w_l2iv (z := 323984) rfl (by decide) ?_
                                                refine w_goto rfl ?_
                                                refine w_iret rfl (Or.inl rfl) ?_
                                                exact ⟨congrArg (fun v => some (Value.int v)) (show (323984 : Int32) = f1_buy (20) (0) by have e0 : (20 : Int32).toInt = 20 := rfl; have e1 : (0 : Int32).toInt = 0 := rfl; exact ite_eq_of (fun _ => ite_eq_of (fun _ => ite_eq_of (fun hc => absurd hc (by omega)) (fun _ => ite_eq_of (fun hc => absurd hc (by omega)) (fun _ => ite_eq_of (fun hc => absurd hc (by omega)) (fun _ => ite_eq_of (fun hc => absurd hc (by omega)) (fun _ => rfl))))) (fun hc => absurd (by omega) hc)) (fun hc => absurd (by omega) hc)), rfl, fun x hx => (gU_o (by omega)).trans ((gU_o (by omega)).trans ((gU_o (by omega)).trans ((gU_o (by omega)).trans ((gU_o (by omega)).trans ((gU_o (by omega)).trans ((gU_o (by omega)).trans ((gU_o (by omega)).trans ((gU_o (by omega)).trans ((gU_o (by omega)).trans ((gU_o (by omega)).trans ((gU_o (by omega)).trans ((gU_o (by omega)).trans ((gU_o (by omega)).trans ((gU_o (by omega)).trans ((gU_o (by omega)).trans ((gU_o (by omega)).trans ((gU_o (by omega)).trans ((gU_o (by omega)).trans ((gU_o (by omega)).trans ((gU_o (by omega)).trans ((gU_o (by omega)).trans ((gU_o (by omega)).trans ((gU_o (by omega)).trans ((gU_o (by omega)).trans ((gU_o (by omega)).trans ((gU_o (by omega)).trans ((gU_o (by omega)).trans ((gU_o (by omega)).trans ((gU_o (by omega)).trans ((gU_o (by omega)).trans ((gU_o (by omega)).trans ((gU_o (by omega)).trans ((gU_o (by omega)).trans ((gU_o (by omega)).trans ((gU_o (by omega)).trans (gU_o (by omega))))))))))))))))))))))))))))))))))))), fun x hx => (gU_o (by omega)).trans ((gU_o (by omega)).trans ((gU_o (by omega)).trans ((gU_o (by omega)).trans ((gU_o (by omega)).trans ((gU_o (by omega)).trans ((gU_o (by omega)).trans ((gU_o (by omega)).trans ((gU_o (by omega)).trans ((gU_o (by omega)).trans ((gU_o (by omega)).trans ((gU_o (by omega)).trans ((gU_o (by omega)).trans ((gU_o (by omega)).trans ((gU_o (by omega)).trans ((gU_o (by omega)).trans ((gU_o (by omega)).trans ((gU_o (by omega)).trans ((gU_o (by omega)).trans ((gU_o (by omega)).trans ((gU_o (by omega)).trans ((gU_o (by omega)).trans ((gU_o (by omega)).trans ((gU_o (by omega)).trans ((gU_o (by omega)).trans ((gU_o (by omega)).trans ((gU_o (by omega)).trans ((gU_o (by omega)).trans ((gU_o (by omega)).trans ((gU_o (by omega)).trans ((gU_o (by omega)).trans ((gU_o (by omega)).trans ((gU_o (by omega)).trans ((gU_o (by omega)).trans ((gU_o (by omega)).trans ((gU_o (by omega)).trans (gU_o (by omega))))))))))))))))))))))))))))))))))))), fun x hx => rfl⟩
      · refine w_iload rfl rfl ?_
        refine w_pushI rfl ?_
        refine w_icmp_neZ (b := 1) rfl rfl (by decide) (fun h4 => ?_) (fun h4 => ?_)
        · refine w_pushI rfl ?_
          refine w_iret rfl (Or.inr ⟨rfl, by decide⟩) ?_
          show gW _ _ _ _ _ _ _ _ _ _
          refine w_if_ne rfl (fun h => absurd (by decide) h) (fun _ => ?_)
          refine w_pushI rfl ?_
          refine w_iret rfl (Or.inl rfl) ?_
          exact ⟨congrArg (fun v => some (Value.int v)) (show ((-1) : Int32) = f1_buy a b by exact ite_eq_of (fun hc => ite_eq_of (fun hc => ite_eq_of (fun hc => ite_eq_of (fun hc => ite_eq_of (fun hc => ite_eq_of (fun hc => ite_eq_of (fun hc => (by exfalso; omega)) (fun hc => (by exfalso; omega))) (fun hc => (by exfalso; omega))) (fun hc => ite_eq_of (fun hc => ite_eq_of (fun hc => (by exfalso; omega)) (fun hc => (by exfalso; omega))) (fun hc => (by exfalso; omega)))) (fun hc => ite_eq_of (fun hc => ite_eq_of (fun hc => ite_eq_of (fun hc => (by exfalso; omega)) (fun hc => (by exfalso; omega))) (fun hc => (by exfalso; omega))) (fun hc => ite_eq_of (fun hc => (by exfalso; omega)) (fun hc => (by exfalso; omega))))) (fun hc => ite_eq_of (fun hc => ite_eq_of (fun hc => ite_eq_of (fun hc => ite_eq_of (fun hc => (by exfalso; omega)) (fun hc => (by exfalso; omega))) (fun hc => (by exfalso; omega))) (fun hc => ite_eq_of (fun hc => (by exfalso; omega)) (fun hc => (by exfalso; omega)))) (fun hc => ite_eq_of (fun hc => ite_eq_of (fun hc => ite_eq_of (fun hc => (by exfalso; omega)) (fun hc => (by exfalso; omega))) (fun hc => (by exfalso; omega))) (fun hc => ite_eq_of (fun hc => (by exfalso; omega)) (fun hc => (by exfalso; omega)))))) (fun hc => ite_eq_of (fun hc => ite_eq_of (fun hc => ite_eq_of (fun hc => ite_eq_of (fun hc => ite_eq_of (fun hc => (by exfalso; omega)) (fun hc => (by exfalso; omega))) (fun hc => (by exfalso; omega))) (fun hc => ite_eq_of (fun hc => ite_eq_of (fun hc => (by exfalso; omega)) (fun hc => (by exfalso; omega))) (fun hc => (by exfalso; omega)))) (fun hc => ite_eq_of (fun hc => ite_eq_of (fun hc => ite_eq_of (fun hc => (by exfalso; omega)) (fun hc => (by exfalso; omega))) (fun hc => (by exfalso; omega))) (fun hc => ite_eq_of (fun hc => (by exfalso; omega)) (fun hc => (by exfalso; omega))))) (fun hc => ite_eq_of (fun hc => ite_eq_of (fun hc => ite_eq_of (fun hc => ite_eq_of (fun hc => (by exfalso; omega)) (fun hc => (by exfalso; omega))) (fun hc => (by exfalso; omega))) (fun hc => ite_eq_of (fun hc => (by exfalso; omega)) (fun hc => (by exfalso; omega)))) (fun hc => ite_eq_of (fun hc => ite_eq_of (fun hc => ite_eq_of (fun hc => (by exfalso; omega)) (fun hc => (by exfalso; omega))) (fun hc => (by exfalso; omega))) (fun hc => ite_eq_of (fun hc => (by exfalso; omega)) (fun hc => (by exfalso; omega))))))) (fun hc => rfl)), rfl, fun x hx => rfl, fun x hx => rfl, fun x hx => rfl⟩
        · obtain rfl : b = 1 := i_is (show b.toInt = 1 by omega) (by decide)
          refine w_pushI rfl ?_
          refine w_goto rfl ?_
          refine w_iret rfl (Or.inr ⟨rfl, by decide⟩) ?_
          show gW _ _ _ _ _ _ _ _ _ _
          refine w_if_ne rfl (fun _ => ?_) (fun h => absurd h (by decide))
          refine w_aload rfl rfl ?_
          refine w_getR (r := 22) rfl rfl (hR _ fmR_0_5) ?_
          refine w_iload rfl rfl ?_
          refine w_aload rfl rfl ?_
          refine w_getR (r := 8) rfl rfl (hR _ fmR_0_1) ?_
          refine w_pushI rfl ?_
          refine w_pushI rfl ?_
          refine w_callVi (As := [_, _]) (le := [some _, some _, some _, none]) rfl rfl rfl (by decide) (Nat.le_of_ble_eq_true rfl) rfl ?_
          refine w_aload rfl rfl ?_
          refine w_iload rfl rfl ?_
          refine w_iload rfl rfl ?_
          refine w_callVi (As := [_, _]) (le := [some _, some _, some _]) rfl rfl rfl (by decide) (Nat.le_of_ble_eq_true rfl) rfl ?_
          refine w_iload rfl rfl ?_
          refine w_if_lt rfl (fun h => absurd h (by decide)) (fun _ => ?_)
          refine w_iload rfl rfl ?_
          refine w_pushI rfl ?_
          refine w_icmp_lt rfl (fun _ => ?_) (fun h => absurd (by decide) h)
          refine w_iload rfl rfl ?_
          refine w_pushI rfl ?_
          refine w_icmp_ge rfl (fun _ => ?_) (fun h => absurd (by decide) h)
          refine w_iload rfl rfl ?_
          refine w_if_ne rfl (fun h => absurd (by decide) h) (fun _ => ?_)
          refine w_pushI rfl ?_
          refine w_iload rfl rfl ?_
          refine w_iaddv (z := 51) rfl (by decide) ?_
          refine w_goto rfl ?_
          refine w_iret rfl (Or.inl rfl) ?_
          show gW _ _ _ _ _ _ _ _ _ _
          refine w_istore rfl rfl ?_
          refine w_iload rfl rfl ?_
          refine w_if_ge rfl (fun _ => ?_) (fun h => absurd (by decide) h)
          refine w_aload rfl rfl ?_
          refine w_getR (r := 9) rfl rfl (hR _ fmR_8_1) ?_
          refine w_iload rfl rfl ?_
          refine w_ialdv (j := 51) (x := 20) rfl rfl (by decide) (by unfold vp_in; decide) (hI _ fmI_9_51) ?_
          refine w_iret rfl (Or.inl rfl) ?_
          show gW _ _ _ _ _ _ _ _ _ _
          refine w_callVi (As := [_, _]) (le := [some _, some _, some _, none, none, none, none, none, none, none, none, none]) rfl rfl rfl (by decide) (Nat.le_of_ble_eq_true rfl) rfl ?_
          refine w_pushL rfl ?_
          refine w_aload rfl rfl ?_
          refine w_getR (r := 8) rfl rfl (hR _ fmR_22_0) ?_
          refine w_pushI rfl ?_
          refine w_pushI rfl ?_
          refine w_callVi (As := [_, _]) (le := [some _, some _, some _, none]) rfl rfl rfl (by decide) (Nat.le_of_ble_eq_true rfl) rfl ?_
          refine w_aload rfl rfl ?_
          refine w_iload rfl rfl ?_
          refine w_iload rfl rfl ?_
          refine w_callVi (As := [_, _]) (le := [some _, some _, some _]) rfl rfl rfl (by decide) (Nat.le_of_ble_eq_true rfl) rfl ?_
          refine w_iload rfl rfl ?_
          refine w_if_lt rfl (fun h => absurd h (by decide)) (fun _ => ?_)
          refine w_iload rfl rfl ?_
          refine w_pushI rfl ?_
          refine w_icmp_lt rfl (fun _ => ?_) (fun h => absurd (by decide) h)
          refine w_iload rfl rfl ?_
          refine w_pushI rfl ?_
          refine w_icmp_ge rfl (fun _ => ?_) (fun h => absurd (by decide) h)
          refine w_iload rfl rfl ?_
          refine w_if_ne rfl (fun h => absurd (by decide) h) (fun _ => ?_)
          refine w_pushI rfl ?_
          refine w_iload rfl rfl ?_
          refine w_iaddv (z := 48) rfl (by decide) ?_
          refine w_goto rfl ?_
          refine w_iret rfl (Or.inl rfl) ?_
          show gW _ _ _ _ _ _ _ _ _ _
          refine w_istore rfl rfl ?_
          refine w_iload rfl rfl ?_
          refine w_if_ge rfl (fun _ => ?_) (fun h => absurd (by decide) h)
          refine w_aload rfl rfl ?_
          refine w_getR (r := 9) rfl rfl (hR _ fmR_8_1) ?_
          refine w_iload rfl rfl ?_
          refine w_ialdv (j := 48) (x := 60) rfl rfl (by decide) (by unfold vp_in; decide) (hI _ fmI_9_48) ?_
          refine w_iret rfl (Or.inl rfl) ?_
          show gW _ _ _ _ _ _ _ _ _ _
          refine w_i2lv (z := 60) rfl (by decide) ?_
          refine w_lmulv (z := 60000) rfl (by decide) ?_
          refine w_lstore rfl rfl ?_
          refine w_pushL rfl ?_
          refine w_aload rfl rfl ?_
          refine w_getR (r := 8) rfl rfl (hR _ fmR_22_0) ?_
          refine w_pushI rfl ?_
          refine w_pushI rfl ?_
          refine w_callVi (As := [_, _]) (le := [some _, some _, some _, none]) rfl rfl rfl (by decide) (Nat.le_of_ble_eq_true rfl) rfl ?_
          refine w_aload rfl rfl ?_
          refine w_iload rfl rfl ?_
          refine w_iload rfl rfl ?_
          refine w_callVi (As := [_, _]) (le := [some _, some _, some _]) rfl rfl rfl (by decide) (Nat.le_of_ble_eq_true rfl) rfl ?_
          refine w_iload rfl rfl ?_
          refine w_if_lt rfl (fun h => absurd h (by decide)) (fun _ => ?_)
          refine w_iload rfl rfl ?_
          refine w_pushI rfl ?_
          refine w_icmp_lt rfl (fun _ => ?_) (fun h => absurd (by decide) h)
          refine w_iload rfl rfl ?_
          refine w_pushI rfl ?_
          refine w_icmp_ge rfl (fun _ => ?_) (fun h => absurd (by decide) h)
          refine w_iload rfl rfl ?_
          refine w_if_ne rfl (fun h => absurd (by decide) h) (fun _ => ?_)
          refine w_pushI rfl ?_
          refine w_iload rfl rfl ?_
          refine w_iaddv (z := 49) rfl (by decide) ?_
          refine w_goto rfl ?_
          refine w_iret rfl (Or.inl rfl) ?_
          show gW _ _ _ _ _ _ _ _ _ _
          refine w_istore rfl rfl ?_
          refine w_iload rfl rfl ?_
          refine w_if_ge rfl (fun _ => ?_) (fun h => absurd (by decide) h)
          refine w_aload rfl rfl ?_
          refine w_getR (r := 9) rfl rfl (hR _ fmR_8_1) ?_
          refine w_iload rfl rfl ?_
          refine w_ialdv (j := 49) (x := 90) rfl rfl (by decide) (by unfold vp_in; decide) (hI _ fmI_9_49) ?_
          refine w_iret rfl (Or.inl rfl) ?_
          show gW _ _ _ _ _ _ _ _ _ _
          refine w_i2lv (z := 90) rfl (by decide) ?_
          refine w_lmulv (z := 90000) rfl (by decide) ?_
          refine w_lstore rfl rfl ?_
          refine w_aload rfl rfl ?_
          refine w_getR (r := 8) rfl rfl (hR _ fmR_22_0) ?_
          refine w_pushI rfl ?_
          refine w_pushI rfl ?_
          refine w_callVi (As := [_, _]) (le := [some _, some _, some _, none]) rfl rfl rfl (by decide) (Nat.le_of_ble_eq_true rfl) rfl ?_
          refine w_aload rfl rfl ?_
          refine w_iload rfl rfl ?_
          refine w_iload rfl rfl ?_
          refine w_callVi (As := [_, _]) (le := [some _, some _, some _]) rfl rfl rfl (by decide) (Nat.le_of_ble_eq_true rfl) rfl ?_
          refine w_iload rfl rfl ?_
          refine w_if_lt rfl (fun h => absurd h (by decide)) (fun _ => ?_)
          refine w_iload rfl rfl ?_
          refine w_pushI rfl ?_
          refine w_icmp_lt rfl (fun _ => ?_) (fun h => absurd (by decide) h)
          refine w_iload rfl rfl ?_
          refine w_pushI rfl ?_
          refine w_icmp_ge rfl (fun _ => ?_) (fun h => absurd (by decide) h)
          refine w_iload rfl rfl ?_
          refine w_if_ne rfl (fun h => absurd (by decide) h) (fun _ => ?_)
          refine w_pushI rfl ?_
          refine w_iload rfl rfl ?_
          refine w_iaddv (z := 50) rfl (by decide) ?_
          refine w_goto rfl ?_
          refine w_iret rfl (Or.inl rfl) ?_
          show gW _ _ _ _ _ _ _ _ _ _
          refine w_istore rfl rfl ?_
          refine w_iload rfl rfl ?_
          refine w_if_ge rfl (fun _ => ?_) (fun h => absurd (by decide) h)
          refine w_aload rfl rfl ?_
          refine w_getR (r := 9) rfl rfl (hR _ fmR_8_1) ?_
          refine w_iload rfl rfl ?_
          refine w_ialdv (j := 50) (x := 3) rfl rfl (by decide) (by unfold vp_in; decide) (hI _ fmI_9_50) ?_
          refine w_iret rfl (Or.inl rfl) ?_
          show gW _ _ _ _ _ _ _ _ _ _
          refine w_i2lv (z := 3) rfl (by decide) ?_
          refine w_lstore rfl rfl ?_
          refine w_pushL rfl ?_
          refine w_lstore rfl rfl ?_
          refine w_aload rfl rfl ?_
          refine w_pushL rfl ?_
          refine w_putL rfl rfl ?_
          refine w_aload rfl rfl ?_
          refine w_pushI rfl ?_
          refine w_putI rfl rfl ?_
          refine w_pushI rfl ?_
          refine w_istore rfl rfl ?_
          refine w_iload rfl rfl ?_
          refine w_iload rfl rfl ?_
          refine w_icmp_geZ (a := 0) rfl (by decide) rfl (fun h6 => ?_) (fun h6 => ?_)
          · obtain rfl : a = 0 := i_is (show a.toInt = 0 by omega) (by decide)
            refine w_vret rfl rfl ?_
            show gW _ _ _ _ _ _ _ _ _ _
            refine w_iload rfl rfl ?_
            refine w_topv (z := 1) (by decide) ?_
            refine w_if_ne rfl (fun _ => ?_) (fun h => absurd h (by decide))
            refine w_aload rfl rfl ?_
            refine w_getR (r := 22) rfl rfl (hR _ fmR_0_5) ?_
            refine w_getIv (x := 0) rfl rfl (gU_e) ?_
            refine w_iret rfl (Or.inl rfl) ?_
            exact ⟨congrArg (fun v => some (Value.int v)) (show (0 : Int32) = f1_buy (0) (1) by have e0 : (0 : Int32).toInt = 0 := rfl; have e1 : (1 : Int32).toInt = 1 := rfl; exact ite_eq_of (fun _ => ite_eq_of (fun hc => absurd hc (by omega)) (fun _ => ite_eq_of (fun _ => ite_eq_of (fun _ => ite_eq_of (fun _ => ite_eq_of (fun _ => ite_eq_of (fun _ => rfl) (fun hc => absurd (by omega) hc)) (fun hc => absurd (by omega) hc)) (fun hc => absurd (by omega) hc)) (fun hc => absurd (by omega) hc)) (fun hc => absurd (by omega) hc))) (fun hc => absurd (by omega) hc)), rfl, fun x hx => gU_o (by omega), fun x hx => gU_o (by omega), fun x hx => rfl⟩
          · refine w_lload rfl rfl ?_
            refine w_aload rfl rfl ?_
            refine w_getLv (x := 0) rfl rfl (gU_e) ?_
            refine w_lmulv (z := 0) rfl (by decide) ?_
            refine w_pushL rfl ?_
            refine w_lload rfl rfl ?_
            refine w_lsubv (z := 9) rfl (by decide) ?_
            refine w_lload rfl rfl ?_
            refine w_lmulv (z := 0) rfl (by decide) ?_
            refine w_laddv (z := 0) rfl (by decide) ?_
            refine w_pushL rfl ?_
            refine w_ldivv (z := 0) rfl (by decide) (by decide) ?_
            refine w_lstore rfl rfl ?_
            refine w_aload rfl rfl ?_
            refine w_pushL rfl ?_
            refine w_iload rfl rfl ?_
            refine w_i2lv (z := 20) rfl (by decide) ?_
            refine w_lmulv (z := 20000) rfl (by decide) ?_
            refine w_aload rfl rfl ?_
            refine w_getLv (x := 0) rfl rfl (gU_e) ?_
            refine w_laddv (z := 20000) rfl (by decide) ?_
            refine w_lload rfl rfl ?_
            refine w_lload rfl rfl ?_
            refine w_laddv (z := 60000) rfl (by decide) ?_
            refine w_lload rfl rfl ?_
            refine w_lload rfl rfl ?_
            refine w_laddv (z := 90000) rfl (by decide) ?_
            refine w_callVi (As := [_, _, _]) (le := [some _, some _, none, some _, none, some _, none]) rfl rfl rfl (by decide) (Nat.le_of_ble_eq_true rfl) rfl ?_
            refine w_aload rfl rfl ?_
            refine w_lload rfl rfl ?_
            refine w_putL rfl rfl ?_
            refine w_aload rfl rfl ?_
            refine w_pushI rfl ?_
            refine w_putI rfl rfl ?_
            refine w_lload rfl rfl ?_
            refine w_aload rfl rfl ?_
            refine w_getLv (x := 20000) rfl rfl (gU_e) ?_
            refine w_lcmpv (z := 1) rfl (by decide) ?_
            refine w_if_ge rfl (fun _ => ?_) (fun h => absurd (by decide) h)
            refine w_lload rfl rfl ?_
            refine w_aload rfl rfl ?_
            refine w_getLv (x := 20000) rfl rfl (gU_e) ?_
            refine w_lcmpv (z := 1) rfl (by decide) ?_
            refine w_if_ge rfl (fun _ => ?_) (fun h => absurd (by decide) h)
            refine w_vret rfl rfl ?_
            show gW _ _ _ _ _ _ _ _ _ _
            refine w_iincv (z := 1) rfl rfl (by decide) rfl ?_
            refine w_goto rfl ?_
            refine w_iload rfl rfl ?_
            refine w_iload rfl rfl ?_
            refine w_icmp_geZ (a := 1) rfl (by decide) rfl (fun h7 => ?_) (fun h7 => ?_)
            · obtain rfl : a = 1 := i_is (show a.toInt = 1 by omega) (by decide)
              refine w_vret rfl rfl ?_
              show gW _ _ _ _ _ _ _ _ _ _
              refine w_iload rfl rfl ?_
              refine w_topv (z := 1) (by decide) ?_
              refine w_if_ne rfl (fun _ => ?_) (fun h => absurd h (by decide))
              refine w_aload rfl rfl ?_
              refine w_getR (r := 22) rfl rfl (hR _ fmR_0_5) ?_
              refine w_getIv (x := 0) rfl rfl (gU_e) ?_
              refine w_iret rfl (Or.inl rfl) ?_
              exact ⟨congrArg (fun v => some (Value.int v)) (show (0 : Int32) = f1_buy (1) (1) by have e0 : (1 : Int32).toInt = 1 := rfl; have e1 : (1 : Int32).toInt = 1 := rfl; exact ite_eq_of (fun _ => ite_eq_of (fun hc => absurd hc (by omega)) (fun _ => ite_eq_of (fun _ => ite_eq_of (fun _ => ite_eq_of (fun _ => ite_eq_of (fun _ => ite_eq_of (fun hc => absurd hc (by omega)) (fun _ => rfl)) (fun hc => absurd (by omega) hc)) (fun hc => absurd (by omega) hc)) (fun hc => absurd (by omega) hc)) (fun hc => absurd (by omega) hc))) (fun hc => absurd (by omega) hc)), rfl, fun x hx => (gU_o (by omega)).trans (gU_o (by omega)), fun x hx => (gU_o (by omega)).trans (gU_o (by omega)), fun x hx => rfl⟩
            · refine w_lload rfl rfl ?_
              refine w_aload rfl rfl ?_
              refine w_getLv (x := 20000) rfl rfl (gU_e) ?_
              refine w_lmulv (z := 60000) rfl (by decide) ?_
              refine w_pushL rfl ?_
              refine w_lload rfl rfl ?_
              refine w_lsubv (z := 9) rfl (by decide) ?_
              refine w_lload rfl rfl ?_
              refine w_lmulv (z := 0) rfl (by decide) ?_
              refine w_laddv (z := 60000) rfl (by decide) ?_
              refine w_pushL rfl ?_
              refine w_ldivv (z := 5000) rfl (by decide) (by decide) ?_
              refine w_lstore rfl rfl ?_
              refine w_aload rfl rfl ?_
              refine w_pushL rfl ?_
              refine w_iload rfl rfl ?_
              refine w_i2lv (z := 20) rfl (by decide) ?_
              refine w_lmulv (z := 20000) rfl (by decide) ?_
              refine w_aload rfl rfl ?_
              refine w_getLv (x := 20000) rfl rfl (gU_e) ?_
              refine w_laddv (z := 40000) rfl (by decide) ?_
              refine w_lload rfl rfl ?_
              refine w_lload rfl rfl ?_
              refine w_laddv (z := 65000) rfl (by decide) ?_
              refine w_lload rfl rfl ?_
              refine w_lload rfl rfl ?_
              refine w_laddv (z := 95000) rfl (by decide) ?_
              refine w_callVi (As := [_, _, _]) (le := [some _, some _, none, some _, none, some _, none]) rfl rfl rfl (by decide) (Nat.le_of_ble_eq_true rfl) rfl ?_
              refine w_aload rfl rfl ?_
              refine w_lload rfl rfl ?_
              refine w_putL rfl rfl ?_
              refine w_aload rfl rfl ?_
              refine w_pushI rfl ?_
              refine w_putI rfl rfl ?_
              refine w_lload rfl rfl ?_
              refine w_aload rfl rfl ?_
              refine w_getLv (x := 40000) rfl rfl (gU_e) ?_
              refine w_lcmpv (z := 1) rfl (by decide) ?_
              refine w_if_ge rfl (fun _ => ?_) (fun h => absurd (by decide) h)
              refine w_lload rfl rfl ?_
              refine w_aload rfl rfl ?_
              refine w_getLv (x := 40000) rfl rfl (gU_e) ?_
              refine w_lcmpv (z := 1) rfl (by decide) ?_
              refine w_if_ge rfl (fun _ => ?_) (fun h => absurd (by decide) h)
              refine w_vret rfl rfl ?_
              show gW _ _ _ _ _ _ _ _ _ _
              refine w_iincv (z := 2) rfl rfl (by decide) rfl ?_
              refine w_goto rfl ?_
              refine w_iload rfl rfl ?_
              refine w_iload rfl rfl ?_
              refine w_icmp_geZ (a := 2) rfl (by decide) rfl (fun h8 => ?_) (fun h8 => ?_)
              · obtain rfl : a = 2 := i_is (show a.toInt = 2 by omega) (by decide)
                refine w_vret rfl rfl ?_
                show gW _ _ _ _ _ _ _ _ _ _
                refine w_iload rfl rfl ?_
                refine w_topv (z := 1) (by decide) ?_
                refine w_if_ne rfl (fun _ => ?_) (fun h => absurd h (by decide))
                refine w_aload rfl rfl ?_
                refine w_getR (r := 22) rfl rfl (hR _ fmR_0_5) ?_
                refine w_getIv (x := 0) rfl rfl (gU_e) ?_
                refine w_iret rfl (Or.inl rfl) ?_
                exact ⟨congrArg (fun v => some (Value.int v)) (show (0 : Int32) = f1_buy (2) (1) by have e0 : (2 : Int32).toInt = 2 := rfl; have e1 : (1 : Int32).toInt = 1 := rfl; exact ite_eq_of (fun _ => ite_eq_of (fun hc => absurd hc (by omega)) (fun _ => ite_eq_of (fun _ => ite_eq_of (fun _ => ite_eq_of (fun _ => ite_eq_of (fun hc => absurd hc (by omega)) (fun _ => rfl)) (fun hc => absurd (by omega) hc)) (fun hc => absurd (by omega) hc)) (fun hc => absurd (by omega) hc))) (fun hc => absurd (by omega) hc)), rfl, fun x hx => (gU_o (by omega)).trans ((gU_o (by omega)).trans (gU_o (by omega))), fun x hx => (gU_o (by omega)).trans ((gU_o (by omega)).trans (gU_o (by omega))), fun x hx => rfl⟩
              · refine w_lload rfl rfl ?_
                refine w_aload rfl rfl ?_
                refine w_getLv (x := 40000) rfl rfl (gU_e) ?_
                refine w_lmulv (z := 120000) rfl (by decide) ?_
                refine w_pushL rfl ?_
                refine w_lload rfl rfl ?_
                refine w_lsubv (z := 9) rfl (by decide) ?_
                refine w_lload rfl rfl ?_
                refine w_lmulv (z := 45000) rfl (by decide) ?_
                refine w_laddv (z := 165000) rfl (by decide) ?_
                refine w_pushL rfl ?_
                refine w_ldivv (z := 13750) rfl (by decide) (by decide) ?_
                refine w_lstore rfl rfl ?_
                refine w_aload rfl rfl ?_
                refine w_pushL rfl ?_
                refine w_iload rfl rfl ?_
                refine w_i2lv (z := 20) rfl (by decide) ?_
                refine w_lmulv (z := 20000) rfl (by decide) ?_
                refine w_aload rfl rfl ?_
                refine w_getLv (x := 40000) rfl rfl (gU_e) ?_
                refine w_laddv (z := 60000) rfl (by decide) ?_
                refine w_lload rfl rfl ?_
                refine w_lload rfl rfl ?_
                refine w_laddv (z := 73750) rfl (by decide) ?_
                refine w_lload rfl rfl ?_
                refine w_lload rfl rfl ?_
                refine w_laddv (z := 103750) rfl (by decide) ?_
                refine w_callVi (As := [_, _, _]) (le := [some _, some _, none, some _, none, some _, none]) rfl rfl rfl (by decide) (Nat.le_of_ble_eq_true rfl) rfl ?_
                refine w_aload rfl rfl ?_
                refine w_lload rfl rfl ?_
                refine w_putL rfl rfl ?_
                refine w_aload rfl rfl ?_
                refine w_pushI rfl ?_
                refine w_putI rfl rfl ?_
                refine w_lload rfl rfl ?_
                refine w_aload rfl rfl ?_
                refine w_getLv (x := 60000) rfl rfl (gU_e) ?_
                refine w_lcmpv (z := 1) rfl (by decide) ?_
                refine w_if_ge rfl (fun _ => ?_) (fun h => absurd (by decide) h)
                refine w_lload rfl rfl ?_
                refine w_aload rfl rfl ?_
                refine w_getLv (x := 60000) rfl rfl (gU_e) ?_
                refine w_lcmpv (z := 1) rfl (by decide) ?_
                refine w_if_ge rfl (fun _ => ?_) (fun h => absurd (by decide) h)
                refine w_vret rfl rfl ?_
                show gW _ _ _ _ _ _ _ _ _ _
                refine w_iincv (z := 3) rfl rfl (by decide) rfl ?_
                refine w_goto rfl ?_
                refine w_iload rfl rfl ?_
                refine w_iload rfl rfl ?_
                refine w_icmp_geZ (a := 3) rfl (by decide) rfl (fun h9 => ?_) (fun h9 => ?_)
                · obtain rfl : a = 3 := i_is (show a.toInt = 3 by omega) (by decide)
                  refine w_vret rfl rfl ?_
                  show gW _ _ _ _ _ _ _ _ _ _
                  refine w_iload rfl rfl ?_
                  refine w_topv (z := 1) (by decide) ?_
                  refine w_if_ne rfl (fun _ => ?_) (fun h => absurd h (by decide))
                  refine w_aload rfl rfl ?_
                  refine w_getR (r := 22) rfl rfl (hR _ fmR_0_5) ?_
                  refine w_getIv (x := 0) rfl rfl (gU_e) ?_
                  refine w_iret rfl (Or.inl rfl) ?_
                  exact ⟨congrArg (fun v => some (Value.int v)) (show (0 : Int32) = f1_buy (3) (1) by have e0 : (3 : Int32).toInt = 3 := rfl; have e1 : (1 : Int32).toInt = 1 := rfl; exact ite_eq_of (fun _ => ite_eq_of (fun hc => absurd hc (by omega)) (fun _ => ite_eq_of (fun _ => ite_eq_of (fun _ => ite_eq_of (fun hc => absurd hc (by omega)) (fun _ => ite_eq_of (fun _ => ite_eq_of (fun _ => rfl) (fun hc => absurd (by omega) hc)) (fun hc => absurd (by omega) hc))) (fun hc => absurd (by omega) hc)) (fun hc => absurd (by omega) hc))) (fun hc => absurd (by omega) hc)), rfl, fun x hx => (gU_o (by omega)).trans ((gU_o (by omega)).trans ((gU_o (by omega)).trans (gU_o (by omega)))), fun x hx => (gU_o (by omega)).trans ((gU_o (by omega)).trans ((gU_o (by omega)).trans (gU_o (by omega)))), fun x hx => rfl⟩
                · refine w_lload rfl rfl ?_
                  refine w_aload rfl rfl ?_
                  refine w_getLv (x := 60000) rfl rfl (gU_e) ?_
                  refine w_lmulv (z := 180000) rfl (by decide) ?_
                  refine w_pushL rfl ?_
                  refine w_lload rfl rfl ?_
                  refine w_lsubv (z := 9) rfl (by decide) ?_
                  refine w_lload rfl rfl ?_
                  refine w_lmulv (z := 123750) rfl (by decide) ?_
                  refine w_laddv (z := 303750) rfl (by decide) ?_
                  refine w_pushL rfl ?_
                  refine w_ldivv (z := 25312) rfl (by decide) (by decide) ?_
                  refine w_lstore rfl rfl ?_
                  refine w_aload rfl rfl ?_
                  refine w_pushL rfl ?_
                  refine w_iload rfl rfl ?_
                  refine w_i2lv (z := 20) rfl (by decide) ?_
                  refine w_lmulv (z := 20000) rfl (by decide) ?_
                  refine w_aload rfl rfl ?_
                  refine w_getLv (x := 60000) rfl rfl (gU_e) ?_
                  refine w_laddv (z := 80000) rfl (by decide) ?_
                  refine w_lload rfl rfl ?_
                  refine w_lload rfl rfl ?_
                  refine w_laddv (z := 85312) rfl (by decide) ?_
                  refine w_lload rfl rfl ?_
                  refine w_lload rfl rfl ?_
                  refine w_laddv (z := 115312) rfl (by decide) ?_
                  refine w_callVi (As := [_, _, _]) (le := [some _, some _, none, some _, none, some _, none]) rfl rfl rfl (by decide) (Nat.le_of_ble_eq_true rfl) rfl ?_
                  refine w_aload rfl rfl ?_
                  refine w_lload rfl rfl ?_
                  refine w_putL rfl rfl ?_
                  refine w_aload rfl rfl ?_
                  refine w_pushI rfl ?_
                  refine w_putI rfl rfl ?_
                  refine w_lload rfl rfl ?_
                  refine w_aload rfl rfl ?_
                  refine w_getLv (x := 80000) rfl rfl (gU_e) ?_
                  refine w_lcmpv (z := 1) rfl (by decide) ?_
                  refine w_if_ge rfl (fun _ => ?_) (fun h => absurd (by decide) h)
                  refine w_lload rfl rfl ?_
                  refine w_aload rfl rfl ?_
                  refine w_getLv (x := 80000) rfl rfl (gU_e) ?_
                  refine w_lcmpv (z := 1) rfl (by decide) ?_
                  refine w_if_ge rfl (fun _ => ?_) (fun h => absurd (by decide) h)
                  refine w_vret rfl rfl ?_
                  show gW _ _ _ _ _ _ _ _ _ _
                  refine w_iincv (z := 4) rfl rfl (by decide) rfl ?_
                  refine w_goto rfl ?_
                  refine w_iload rfl rfl ?_
                  refine w_iload rfl rfl ?_
                  refine w_icmp_geZ (a := 4) rfl (by decide) rfl (fun h10 => ?_) (fun h10 => ?_)
                  · obtain rfl : a = 4 := i_is (show a.toInt = 4 by omega) (by decide)
                    refine w_vret rfl rfl ?_
                    show gW _ _ _ _ _ _ _ _ _ _
                    refine w_iload rfl rfl ?_
                    refine w_topv (z := 1) (by decide) ?_
                    refine w_if_ne rfl (fun _ => ?_) (fun h => absurd h (by decide))
                    refine w_aload rfl rfl ?_
                    refine w_getR (r := 22) rfl rfl (hR _ fmR_0_5) ?_
                    refine w_getIv (x := 0) rfl rfl (gU_e) ?_
                    refine w_iret rfl (Or.inl rfl) ?_
                    exact ⟨congrArg (fun v => some (Value.int v)) (show (0 : Int32) = f1_buy (4) (1) by have e0 : (4 : Int32).toInt = 4 := rfl; have e1 : (1 : Int32).toInt = 1 := rfl; exact ite_eq_of (fun _ => ite_eq_of (fun hc => absurd hc (by omega)) (fun _ => ite_eq_of (fun _ => ite_eq_of (fun _ => ite_eq_of (fun hc => absurd hc (by omega)) (fun _ => ite_eq_of (fun _ => ite_eq_of (fun hc => absurd hc (by omega)) (fun _ => rfl)) (fun hc => absurd (by omega) hc))) (fun hc => absurd (by omega) hc)) (fun hc => absurd (by omega) hc))) (fun hc => absurd (by omega) hc)), rfl, fun x hx => (gU_o (by omega)).trans ((gU_o (by omega)).trans ((gU_o (by omega)).trans ((gU_o (by omega)).trans (gU_o (by omega))))), fun x hx => (gU_o (by omega)).trans ((gU_o (by omega)).trans ((gU_o (by omega)).trans ((gU_o (by omega)).trans (gU_o (by omega))))), fun x hx => rfl⟩
                  · refine w_lload rfl rfl ?_
                    refine w_aload rfl rfl ?_
                    refine w_getLv (x := 80000) rfl rfl (gU_e) ?_
                    refine w_lmulv (z := 240000) rfl (by decide) ?_
                    refine w_pushL rfl ?_
                    refine w_lload rfl rfl ?_
                    refine w_lsubv (z := 9) rfl (by decide) ?_
                    refine w_lload rfl rfl ?_
                    refine w_lmulv (z := 227808) rfl (by decide) ?_
                    refine w_laddv (z := 467808) rfl (by decide) ?_
                    refine w_pushL rfl ?_
                    refine w_ldivv (z := 38984) rfl (by decide) (by decide) ?_
                    refine w_lstore rfl rfl ?_
                    refine w_aload rfl rfl ?_
                    refine w_pushL rfl ?_
                    refine w_iload rfl rfl ?_
                    refine w_i2lv (z := 20) rfl (by decide) ?_
                    refine w_lmulv (z := 20000) rfl (by decide) ?_
                    refine w_aload rfl rfl ?_
                    refine w_getLv (x := 80000) rfl rfl (gU_e) ?_
                    refine w_laddv (z := 100000) rfl (by decide) ?_
                    refine w_lload rfl rfl ?_
                    refine w_lload rfl rfl ?_
                    refine w_laddv (z := 98984) rfl (by decide) ?_
                    refine w_lload rfl rfl ?_
                    refine w_lload rfl rfl ?_
                    refine w_laddv (z := 128984) rfl (by decide) ?_
                    refine w_callVi (As := [_, _, _]) (le := [some _, some _, none, some _, none, some _, none]) rfl rfl rfl (by decide) (Nat.le_of_ble_eq_true rfl) rfl ?_
                    refine w_aload rfl rfl ?_
                    refine w_lload rfl rfl ?_
                    refine w_putL rfl rfl ?_
                    refine w_aload rfl rfl ?_
                    refine w_pushI rfl ?_
                    refine w_putI rfl rfl ?_
                    refine w_lload rfl rfl ?_
                    refine w_aload rfl rfl ?_
                    refine w_getLv (x := 100000) rfl rfl (gU_e) ?_
                    refine w_lcmpv (z := (-1)) rfl (by decide) ?_
                    refine w_if_ge rfl (fun h => absurd h (by decide)) (fun _ => ?_)
                    refine w_aload rfl rfl ?_
                    refine w_lload rfl rfl ?_
                    refine w_putL rfl rfl ?_
                    refine w_aload rfl rfl ?_
                    refine w_pushI rfl ?_
                    refine w_putI rfl rfl ?_
                    refine w_lload rfl rfl ?_
                    refine w_aload rfl rfl ?_
                    refine w_getLv (x := 98984) rfl rfl (gU_e) ?_
                    refine w_lcmpv (z := 1) rfl (by decide) ?_
                    refine w_if_ge rfl (fun _ => ?_) (fun h => absurd (by decide) h)
                    refine w_vret rfl rfl ?_
                    show gW _ _ _ _ _ _ _ _ _ _
                    refine w_iincv (z := 5) rfl rfl (by decide) rfl ?_
                    refine w_goto rfl ?_
                    refine w_iload rfl rfl ?_
                    refine w_iload rfl rfl ?_
                    refine w_icmp_geZ (a := 5) rfl (by decide) rfl (fun h11 => ?_) (fun h11 => ?_)
                    · obtain rfl : a = 5 := i_is (show a.toInt = 5 by omega) (by decide)
                      refine w_vret rfl rfl ?_
                      show gW _ _ _ _ _ _ _ _ _ _
                      refine w_iload rfl rfl ?_
                      refine w_topv (z := 1) (by decide) ?_
                      refine w_if_ne rfl (fun _ => ?_) (fun h => absurd h (by decide))
                      refine w_aload rfl rfl ?_
                      refine w_getR (r := 22) rfl rfl (hR _ fmR_0_5) ?_
                      refine w_getIv (x := 1) rfl rfl (gU_e) ?_
                      refine w_iret rfl (Or.inl rfl) ?_
                      exact ⟨congrArg (fun v => some (Value.int v)) (show (1 : Int32) = f1_buy (5) (1) by have e0 : (5 : Int32).toInt = 5 := rfl; have e1 : (1 : Int32).toInt = 1 := rfl; exact ite_eq_of (fun _ => ite_eq_of (fun hc => absurd hc (by omega)) (fun _ => ite_eq_of (fun _ => ite_eq_of (fun _ => ite_eq_of (fun hc => absurd hc (by omega)) (fun _ => ite_eq_of (fun hc => absurd hc (by omega)) (fun _ => rfl))) (fun hc => absurd (by omega) hc)) (fun hc => absurd (by omega) hc))) (fun hc => absurd (by omega) hc)), rfl, fun x hx => (gU_o (by omega)).trans ((gU_o (by omega)).trans ((gU_o (by omega)).trans ((gU_o (by omega)).trans ((gU_o (by omega)).trans ((gU_o (by omega)).trans (gU_o (by omega))))))), fun x hx => (gU_o (by omega)).trans ((gU_o (by omega)).trans ((gU_o (by omega)).trans ((gU_o (by omega)).trans ((gU_o (by omega)).trans ((gU_o (by omega)).trans (gU_o (by omega))))))), fun x hx => rfl⟩
                    · refine w_lload rfl rfl ?_
                      refine w_aload rfl rfl ?_
                      refine w_getLv (x := 98984) rfl rfl (gU_e) ?_
                      refine w_lmulv (z := 296952) rfl (by decide) ?_
                      refine w_pushL rfl ?_
                      refine w_lload rfl rfl ?_
                      refine w_lsubv (z := 9) rfl (by decide) ?_
                      refine w_lload rfl rfl ?_
                      refine w_lmulv (z := 350856) rfl (by decide) ?_
                      refine w_laddv (z := 647808) rfl (by decide) ?_
                      refine w_pushL rfl ?_
                      refine w_ldivv (z := 53984) rfl (by decide) (by decide) ?_
                      refine w_lstore rfl rfl ?_
                      refine w_aload rfl rfl ?_
                      refine w_pushL rfl ?_
                      refine w_iload rfl rfl ?_
                      refine w_i2lv (z := 20) rfl (by decide) ?_
                      refine w_lmulv (z := 20000) rfl (by decide) ?_
                      refine w_aload rfl rfl ?_
                      refine w_getLv (x := 98984) rfl rfl (gU_e) ?_
                      refine w_laddv (z := 118984) rfl (by decide) ?_
                      refine w_lload rfl rfl ?_
                      refine w_lload rfl rfl ?_
                      refine w_laddv (z := 113984) rfl (by decide) ?_
                      refine w_lload rfl rfl ?_
                      refine w_lload rfl rfl ?_
                      refine w_laddv (z := 143984) rfl (by decide) ?_
                      refine w_callVi (As := [_, _, _]) (le := [some _, some _, none, some _, none, some _, none]) rfl rfl rfl (by decide) (Nat.le_of_ble_eq_true rfl) rfl ?_
                      refine w_aload rfl rfl ?_
                      refine w_lload rfl rfl ?_
                      refine w_putL rfl rfl ?_
                      refine w_aload rfl rfl ?_
                      refine w_pushI rfl ?_
                      refine w_putI rfl rfl ?_
                      refine w_lload rfl rfl ?_
                      refine w_aload rfl rfl ?_
                      refine w_getLv (x := 118984) rfl rfl (gU_e) ?_
                      refine w_lcmpv (z := (-1)) rfl (by decide) ?_
                      refine w_if_ge rfl (fun h => absurd h (by decide)) (fun _ => ?_)
                      refine w_aload rfl rfl ?_
                      refine w_lload rfl rfl ?_
                      refine w_putL rfl rfl ?_
                      refine w_aload rfl rfl ?_
                      refine w_pushI rfl ?_
                      refine w_putI rfl rfl ?_
                      refine w_lload rfl rfl ?_
                      refine w_aload rfl rfl ?_
                      refine w_getLv (x := 113984) rfl rfl (gU_e) ?_
                      refine w_lcmpv (z := 1) rfl (by decide) ?_
                      refine w_if_ge rfl (fun _ => ?_) (fun h => absurd (by decide) h)
                      refine w_vret rfl rfl ?_
                      show gW _ _ _ _ _ _ _ _ _ _
                      refine w_iincv (z := 6) rfl rfl (by decide) rfl ?_
                      refine w_goto rfl ?_
                      refine w_iload rfl rfl ?_
                      refine w_iload rfl rfl ?_
                      refine w_icmp_geZ (a := 6) rfl (by decide) rfl (fun h12 => ?_) (fun h12 => ?_)
                      · obtain rfl : a = 6 := i_is (show a.toInt = 6 by omega) (by decide)
                        refine w_vret rfl rfl ?_
                        show gW _ _ _ _ _ _ _ _ _ _
                        refine w_iload rfl rfl ?_
                        refine w_topv (z := 1) (by decide) ?_
                        refine w_if_ne rfl (fun _ => ?_) (fun h => absurd h (by decide))
                        refine w_aload rfl rfl ?_
                        refine w_getR (r := 22) rfl rfl (hR _ fmR_0_5) ?_
                        refine w_getIv (x := 1) rfl rfl (gU_e) ?_
                        refine w_iret rfl (Or.inl rfl) ?_
                        exact ⟨congrArg (fun v => some (Value.int v)) (show (1 : Int32) = f1_buy (6) (1) by have e0 : (6 : Int32).toInt = 6 := rfl; have e1 : (1 : Int32).toInt = 1 := rfl; exact ite_eq_of (fun _ => ite_eq_of (fun hc => absurd hc (by omega)) (fun _ => ite_eq_of (fun _ => ite_eq_of (fun hc => absurd hc (by omega)) (fun _ => ite_eq_of (fun _ => ite_eq_of (fun _ => ite_eq_of (fun _ => rfl) (fun hc => absurd (by omega) hc)) (fun hc => absurd (by omega) hc)) (fun hc => absurd (by omega) hc))) (fun hc => absurd (by omega) hc))) (fun hc => absurd (by omega) hc)), rfl, fun x hx => (gU_o (by omega)).trans ((gU_o (by omega)).trans ((gU_o (by omega)).trans ((gU_o (by omega)).trans ((gU_o (by omega)).trans ((gU_o (by omega)).trans ((gU_o (by omega)).trans ((gU_o (by omega)).trans (gU_o (by omega))))))))), fun x hx => (gU_o (by omega)).trans ((gU_o (by omega)).trans ((gU_o (by omega)).trans ((gU_o (by omega)).trans ((gU_o (by omega)).trans ((gU_o (by omega)).trans ((gU_o (by omega)).trans ((gU_o (by omega)).trans (gU_o (by omega))))))))), fun x hx => rfl⟩
                      · refine w_lload rfl rfl ?_
                        refine w_aload rfl rfl ?_
                        refine w_getLv (x := 113984) rfl rfl (gU_e) ?_
                        refine w_lmulv (z := 341952) rfl (by decide) ?_
                        refine w_pushL rfl ?_
                        refine w_lload rfl rfl ?_
                        refine w_lsubv (z := 9) rfl (by decide) ?_
                        refine w_lload rfl rfl ?_
                        refine w_lmulv (z := 485856) rfl (by decide) ?_
                        refine w_laddv (z := 827808) rfl (by decide) ?_
                        refine w_pushL rfl ?_
                        refine w_ldivv (z := 68984) rfl (by decide) (by decide) ?_
                        refine w_lstore rfl rfl ?_
                        refine w_aload rfl rfl ?_
                        refine w_pushL rfl ?_
                        refine w_iload rfl rfl ?_
                        refine w_i2lv (z := 20) rfl (by decide) ?_
                        refine w_lmulv (z := 20000) rfl (by decide) ?_
                        refine w_aload rfl rfl ?_
                        refine w_getLv (x := 113984) rfl rfl (gU_e) ?_
                        refine w_laddv (z := 133984) rfl (by decide) ?_
                        refine w_lload rfl rfl ?_
                        refine w_lload rfl rfl ?_
                        refine w_laddv (z := 128984) rfl (by decide) ?_
                        refine w_lload rfl rfl ?_
                        refine w_lload rfl rfl ?_
                        refine w_laddv (z := 158984) rfl (by decide) ?_
                        refine w_callVi (As := [_, _, _]) (le := [some _, some _, none, some _, none, some _, none]) rfl rfl rfl (by decide) (Nat.le_of_ble_eq_true rfl) rfl ?_
                        refine w_aload rfl rfl ?_
                        refine w_lload rfl rfl ?_
                        refine w_putL rfl rfl ?_
                        refine w_aload rfl rfl ?_
                        refine w_pushI rfl ?_
                        refine w_putI rfl rfl ?_
                        refine w_lload rfl rfl ?_
                        refine w_aload rfl rfl ?_
                        refine w_getLv (x := 133984) rfl rfl (gU_e) ?_
                        refine w_lcmpv (z := (-1)) rfl (by decide) ?_
                        refine w_if_ge rfl (fun h => absurd h (by decide)) (fun _ => ?_)
                        refine w_aload rfl rfl ?_
                        refine w_lload rfl rfl ?_
                        refine w_putL rfl rfl ?_
                        refine w_aload rfl rfl ?_
                        refine w_pushI rfl ?_
                        refine w_putI rfl rfl ?_
                        refine w_lload rfl rfl ?_
                        refine w_aload rfl rfl ?_
                        refine w_getLv (x := 128984) rfl rfl (gU_e) ?_
                        refine w_lcmpv (z := 1) rfl (by decide) ?_
                        refine w_if_ge rfl (fun _ => ?_) (fun h => absurd (by decide) h)
                        refine w_vret rfl rfl ?_
                        show gW _ _ _ _ _ _ _ _ _ _
                        refine w_iincv (z := 7) rfl rfl (by decide) rfl ?_
                        refine w_goto rfl ?_
                        refine w_iload rfl rfl ?_
                        refine w_iload rfl rfl ?_
                        refine w_icmp_geZ (a := 7) rfl (by decide) rfl (fun h13 => ?_) (fun h13 => ?_)
                        · obtain rfl : a = 7 := i_is (show a.toInt = 7 by omega) (by decide)
                          refine w_vret rfl rfl ?_
                          show gW _ _ _ _ _ _ _ _ _ _
                          refine w_iload rfl rfl ?_
                          refine w_topv (z := 1) (by decide) ?_
                          refine w_if_ne rfl (fun _ => ?_) (fun h => absurd h (by decide))
                          refine w_aload rfl rfl ?_
                          refine w_getR (r := 22) rfl rfl (hR _ fmR_0_5) ?_
                          refine w_getIv (x := 1) rfl rfl (gU_e) ?_
                          refine w_iret rfl (Or.inl rfl) ?_
                          exact ⟨congrArg (fun v => some (Value.int v)) (show (1 : Int32) = f1_buy (7) (1) by have e0 : (7 : Int32).toInt = 7 := rfl; have e1 : (1 : Int32).toInt = 1 := rfl; exact ite_eq_of (fun _ => ite_eq_of (fun hc => absurd hc (by omega)) (fun _ => ite_eq_of (fun _ => ite_eq_of (fun hc => absurd hc (by omega)) (fun _ => ite_eq_of (fun _ => ite_eq_of (fun _ => ite_eq_of (fun hc => absurd hc (by omega)) (fun _ => rfl)) (fun hc => absurd (by omega) hc)) (fun hc => absurd (by omega) hc))) (fun hc => absurd (by omega) hc))) (fun hc => absurd (by omega) hc)), rfl, fun x hx => (gU_o (by omega)).trans ((gU_o (by omega)).trans ((gU_o (by omega)).trans ((gU_o (by omega)).trans ((gU_o (by omega)).trans ((gU_o (by omega)).trans ((gU_o (by omega)).trans ((gU_o (by omega)).trans ((gU_o (by omega)).trans ((gU_o (by omega)).trans (gU_o (by omega))))))))))), fun x hx => (gU_o (by omega)).trans ((gU_o (by omega)).trans ((gU_o (by omega)).trans ((gU_o (by omega)).trans ((gU_o (by omega)).trans ((gU_o (by omega)).trans ((gU_o (by omega)).trans ((gU_o (by omega)).trans ((gU_o (by omega)).trans ((gU_o (by omega)).trans (gU_o (by omega))))))))))), fun x hx => rfl⟩
                        · refine w_lload rfl rfl ?_
                          refine w_aload rfl rfl ?_
                          refine w_getLv (x := 128984) rfl rfl (gU_e) ?_
                          refine w_lmulv (z := 386952) rfl (by decide) ?_
                          refine w_pushL rfl ?_
                          refine w_lload rfl rfl ?_
                          refine w_lsubv (z := 9) rfl (by decide) ?_
                          refine w_lload rfl rfl ?_
                          refine w_lmulv (z := 620856) rfl (by decide) ?_
                          refine w_laddv (z := 1007808) rfl (by decide) ?_
                          refine w_pushL rfl ?_
                          refine w_ldivv (z := 83984) rfl (by decide) (by decide) ?_
                          refine w_lstore rfl rfl ?_
                          refine w_aload rfl rfl ?_
                          refine w_pushL rfl ?_
                          refine w_iload rfl rfl ?_
                          refine w_i2lv (z := 20) rfl (by decide) ?_
                          refine w_lmulv (z := 20000) rfl (by decide) ?_
                          refine w_aload rfl rfl ?_
                          refine w_getLv (x := 128984) rfl rfl (gU_e) ?_
                          refine w_laddv (z := 148984) rfl (by decide) ?_
                          refine w_lload rfl rfl ?_
                          refine w_lload rfl rfl ?_
                          refine w_laddv (z := 143984) rfl (by decide) ?_
                          refine w_lload rfl rfl ?_
                          refine w_lload rfl rfl ?_
                          refine w_laddv (z := 173984) rfl (by decide) ?_
                          refine w_callVi (As := [_, _, _]) (le := [some _, some _, none, some _, none, some _, none]) rfl rfl rfl (by decide) (Nat.le_of_ble_eq_true rfl) rfl ?_
                          refine w_aload rfl rfl ?_
                          refine w_lload rfl rfl ?_
                          refine w_putL rfl rfl ?_
                          refine w_aload rfl rfl ?_
                          refine w_pushI rfl ?_
                          refine w_putI rfl rfl ?_
                          refine w_lload rfl rfl ?_
                          refine w_aload rfl rfl ?_
                          refine w_getLv (x := 148984) rfl rfl (gU_e) ?_
                          refine w_lcmpv (z := (-1)) rfl (by decide) ?_
                          refine w_if_ge rfl (fun h => absurd h (by decide)) (fun _ => ?_)
                          refine w_aload rfl rfl ?_
                          refine w_lload rfl rfl ?_
                          refine w_putL rfl rfl ?_
                          refine w_aload rfl rfl ?_
                          refine w_pushI rfl ?_
                          refine w_putI rfl rfl ?_
                          refine w_lload rfl rfl ?_
                          refine w_aload rfl rfl ?_
                          refine w_getLv (x := 143984) rfl rfl (gU_e) ?_
                          refine w_lcmpv (z := 1) rfl (by decide) ?_
                          refine w_if_ge rfl (fun _ => ?_) (fun h => absurd (by decide) h)
                          refine w_vret rfl rfl ?_
                          show gW _ _ _ _ _ _ _ _ _ _
                          refine w_iincv (z := 8) rfl rfl (by decide) rfl ?_
                          refine w_goto rfl ?_
                          refine w_iload rfl rfl ?_
                          refine w_iload rfl rfl ?_
                          refine w_icmp_geZ (a := 8) rfl (by decide) rfl (fun h14 => ?_) (fun h14 => ?_)
                          · obtain rfl : a = 8 := i_is (show a.toInt = 8 by omega) (by decide)
                            refine w_vret rfl rfl ?_
                            show gW _ _ _ _ _ _ _ _ _ _
                            refine w_iload rfl rfl ?_
                            refine w_topv (z := 1) (by decide) ?_
                            refine w_if_ne rfl (fun _ => ?_) (fun h => absurd h (by decide))
                            refine w_aload rfl rfl ?_
                            refine w_getR (r := 22) rfl rfl (hR _ fmR_0_5) ?_
                            refine w_getIv (x := 1) rfl rfl (gU_e) ?_
                            refine w_iret rfl (Or.inl rfl) ?_
                            exact ⟨congrArg (fun v => some (Value.int v)) (show (1 : Int32) = f1_buy (8) (1) by have e0 : (8 : Int32).toInt = 8 := rfl; have e1 : (1 : Int32).toInt = 1 := rfl; exact ite_eq_of (fun _ => ite_eq_of (fun hc => absurd hc (by omega)) (fun _ => ite_eq_of (fun _ => ite_eq_of (fun hc => absurd hc (by omega)) (fun _ => ite_eq_of (fun _ => ite_eq_of (fun hc => absurd hc (by omega)) (fun _ => rfl)) (fun hc => absurd (by omega) hc))) (fun hc => absurd (by omega) hc))) (fun hc => absurd (by omega) hc)), rfl, fun x hx => (gU_o (by omega)).trans ((gU_o (by omega)).trans ((gU_o (by omega)).trans ((gU_o (by omega)).trans ((gU_o (by omega)).trans ((gU_o (by omega)).trans ((gU_o (by omega)).trans ((gU_o (by omega)).trans ((gU_o (by omega)).trans ((gU_o (by omega)).trans ((gU_o (by omega)).trans ((gU_o (by omega)).trans (gU_o (by omega))))))))))))), fun x hx => (gU_o (by omega)).trans ((gU_o (by omega)).trans ((gU_o (by omega)).trans ((gU_o (by omega)).trans ((gU_o (by omega)).trans ((gU_o (by omega)).trans ((gU_o (by omega)).trans ((gU_o (by omega)).trans ((gU_o (by omega)).trans ((gU_o (by omega)).trans ((gU_o (by omega)).trans ((gU_o (by omega)).trans (gU_o (by omega))))))))))))), fun x hx => rfl⟩
                          · refine w_lload rfl rfl ?_
                            refine w_aload rfl rfl ?_
                            refine w_getLv (x := 143984) rfl rfl (gU_e) ?_
                            refine w_lmulv (z := 431952) rfl (by decide) ?_
                            refine w_pushL rfl ?_
                            refine w_lload rfl rfl ?_
                            refine w_lsubv (z := 9) rfl (by decide) ?_
                            refine w_lload rfl rfl ?_
                            refine w_lmulv (z := 755856) rfl (by decide) ?_
                            refine w_laddv (z := 1187808) rfl (by decide) ?_
                            refine w_pushL rfl ?_
                            refine w_ldivv (z := 98984) rfl (by decide) (by decide) ?_
                            refine w_lstore rfl rfl ?_
                            refine w_aload rfl rfl ?_
                            refine w_pushL rfl ?_
                            refine w_iload rfl rfl ?_
                            refine w_i2lv (z := 20) rfl (by decide) ?_
                            refine w_lmulv (z := 20000) rfl (by decide) ?_
                            refine w_aload rfl rfl ?_
                            refine w_getLv (x := 143984) rfl rfl (gU_e) ?_
                            refine w_laddv (z := 163984) rfl (by decide) ?_
                            refine w_lload rfl rfl ?_
                            refine w_lload rfl rfl ?_
                            refine w_laddv (z := 158984) rfl (by decide) ?_
                            refine w_lload rfl rfl ?_
                            refine w_lload rfl rfl ?_
                            refine w_laddv (z := 188984) rfl (by decide) ?_
                            refine w_callVi (As := [_, _, _]) (le := [some _, some _, none, some _, none, some _, none]) rfl rfl rfl (by decide) (Nat.le_of_ble_eq_true rfl) rfl ?_
                            refine w_aload rfl rfl ?_
                            refine w_lload rfl rfl ?_
                            refine w_putL rfl rfl ?_
                            refine w_aload rfl rfl ?_
                            refine w_pushI rfl ?_
                            refine w_putI rfl rfl ?_
                            refine w_lload rfl rfl ?_
                            refine w_aload rfl rfl ?_
                            refine w_getLv (x := 163984) rfl rfl (gU_e) ?_
                            refine w_lcmpv (z := (-1)) rfl (by decide) ?_
                            refine w_if_ge rfl (fun h => absurd h (by decide)) (fun _ => ?_)
                            refine w_aload rfl rfl ?_
                            refine w_lload rfl rfl ?_
                            refine w_putL rfl rfl ?_
                            refine w_aload rfl rfl ?_
                            refine w_pushI rfl ?_
                            refine w_putI rfl rfl ?_
                            refine w_lload rfl rfl ?_
                            refine w_aload rfl rfl ?_
                            refine w_getLv (x := 158984) rfl rfl (gU_e) ?_
                            refine w_lcmpv (z := 1) rfl (by decide) ?_
                            refine w_if_ge rfl (fun _ => ?_) (fun h => absurd (by decide) h)
                            refine w_vret rfl rfl ?_
                            show gW _ _ _ _ _ _ _ _ _ _
                            refine w_iincv (z := 9) rfl rfl (by decide) rfl ?_
                            refine w_goto rfl ?_
                            refine w_iload rfl rfl ?_
                            refine w_iload rfl rfl ?_
                            refine w_icmp_geZ (a := 9) rfl (by decide) rfl (fun h15 => ?_) (fun h15 => ?_)
                            · obtain rfl : a = 9 := i_is (show a.toInt = 9 by omega) (by decide)
                              refine w_vret rfl rfl ?_
                              show gW _ _ _ _ _ _ _ _ _ _
                              refine w_iload rfl rfl ?_
                              refine w_topv (z := 1) (by decide) ?_
                              refine w_if_ne rfl (fun _ => ?_) (fun h => absurd h (by decide))
                              refine w_aload rfl rfl ?_
                              refine w_getR (r := 22) rfl rfl (hR _ fmR_0_5) ?_
                              refine w_getIv (x := 1) rfl rfl (gU_e) ?_
                              refine w_iret rfl (Or.inl rfl) ?_
                              exact ⟨congrArg (fun v => some (Value.int v)) (show (1 : Int32) = f1_buy (9) (1) by have e0 : (9 : Int32).toInt = 9 := rfl; have e1 : (1 : Int32).toInt = 1 := rfl; exact ite_eq_of (fun _ => ite_eq_of (fun hc => absurd hc (by omega)) (fun _ => ite_eq_of (fun _ => ite_eq_of (fun hc => absurd hc (by omega)) (fun _ => ite_eq_of (fun hc => absurd hc (by omega)) (fun _ => ite_eq_of (fun _ => rfl) (fun hc => absurd (by omega) hc)))) (fun hc => absurd (by omega) hc))) (fun hc => absurd (by omega) hc)), rfl, fun x hx => (gU_o (by omega)).trans ((gU_o (by omega)).trans ((gU_o (by omega)).trans ((gU_o (by omega)).trans ((gU_o (by omega)).trans ((gU_o (by omega)).trans ((gU_o (by omega)).trans ((gU_o (by omega)).trans ((gU_o (by omega)).trans ((gU_o (by omega)).trans ((gU_o (by omega)).trans ((gU_o (by omega)).trans ((gU_o (by omega)).trans ((gU_o (by omega)).trans (gU_o (by omega))))))))))))))), fun x hx => (gU_o (by omega)).trans ((gU_o (by omega)).trans ((gU_o (by omega)).trans ((gU_o (by omega)).trans ((gU_o (by omega)).trans ((gU_o (by omega)).trans ((gU_o (by omega)).trans ((gU_o (by omega)).trans ((gU_o (by omega)).trans ((gU_o (by omega)).trans ((gU_o (by omega)).trans ((gU_o (by omega)).trans ((gU_o (by omega)).trans ((gU_o (by omega)).trans (gU_o (by omega))))))))))))))), fun x hx => rfl⟩
                            · refine w_lload rfl rfl ?_
                              refine w_aload rfl rfl ?_
                              refine w_getLv (x := 158984) rfl rfl (gU_e) ?_
                              refine w_lmulv (z := 476952) rfl (by decide) ?_
                              refine w_pushL rfl ?_
                              refine w_lload rfl rfl ?_
                              refine w_lsubv (z := 9) rfl (by decide) ?_
                              refine w_lload rfl rfl ?_
                              refine w_lmulv (z := 890856) rfl (by decide) ?_
                              refine w_laddv (z := 1367808) rfl (by decide) ?_
                              refine w_pushL rfl ?_
                              refine w_ldivv (z := 113984) rfl (by decide) (by decide) ?_
                              refine w_lstore rfl rfl ?_
                              refine w_aload rfl rfl ?_
                              refine w_pushL rfl ?_
                              refine w_iload rfl rfl ?_
                              refine w_i2lv (z := 20) rfl (by decide) ?_
                              refine w_lmulv (z := 20000) rfl (by decide) ?_
                              refine w_aload rfl rfl ?_
                              refine w_getLv (x := 158984) rfl rfl (gU_e) ?_
                              refine w_laddv (z := 178984) rfl (by decide) ?_
                              refine w_lload rfl rfl ?_
                              refine w_lload rfl rfl ?_
                              refine w_laddv (z := 173984) rfl (by decide) ?_
                              refine w_lload rfl rfl ?_
                              refine w_lload rfl rfl ?_
                              refine w_laddv (z := 203984) rfl (by decide) ?_
                              refine w_callVi (As := [_, _, _]) (le := [some _, some _, none, some _, none, some _, none]) rfl rfl rfl (by decide) (Nat.le_of_ble_eq_true rfl) rfl ?_
                              refine w_aload rfl rfl ?_
                              refine w_lload rfl rfl ?_
                              refine w_putL rfl rfl ?_
                              refine w_aload rfl rfl ?_
                              refine w_pushI rfl ?_
                              refine w_putI rfl rfl ?_
                              refine w_lload rfl rfl ?_
                              refine w_aload rfl rfl ?_
                              refine w_getLv (x := 178984) rfl rfl (gU_e) ?_
                              refine w_lcmpv (z := (-1)) rfl (by decide) ?_
                              refine w_if_ge rfl (fun h => absurd h (by decide)) (fun _ => ?_)
                              refine w_aload rfl rfl ?_
                              refine w_lload rfl rfl ?_
                              refine w_putL rfl rfl ?_
                              refine w_aload rfl rfl ?_
                              refine w_pushI rfl ?_
                              refine w_putI rfl rfl ?_
                              refine w_lload rfl rfl ?_
                              refine w_aload rfl rfl ?_
                              refine w_getLv (x := 173984) rfl rfl (gU_e) ?_
                              refine w_lcmpv (z := 1) rfl (by decide) ?_
                              refine w_if_ge rfl (fun _ => ?_) (fun h => absurd (by decide) h)
                              refine w_vret rfl rfl ?_
                              show gW _ _ _ _ _ _ _ _ _ _
                              refine w_iincv (z := 10) rfl rfl (by decide) rfl ?_
                              refine w_goto rfl ?_
                              refine w_iload rfl rfl ?_
                              refine w_iload rfl rfl ?_
                              refine w_icmp_geZ (a := 10) rfl (by decide) rfl (fun h16 => ?_) (fun h16 => ?_)
                              · obtain rfl : a = 10 := i_is (show a.toInt = 10 by omega) (by decide)
                                refine w_vret rfl rfl ?_
                                show gW _ _ _ _ _ _ _ _ _ _
                                refine w_iload rfl rfl ?_
                                refine w_topv (z := 1) (by decide) ?_
                                refine w_if_ne rfl (fun _ => ?_) (fun h => absurd h (by decide))
                                refine w_aload rfl rfl ?_
                                refine w_getR (r := 22) rfl rfl (hR _ fmR_0_5) ?_
                                refine w_getIv (x := 1) rfl rfl (gU_e) ?_
                                refine w_iret rfl (Or.inl rfl) ?_
                                exact ⟨congrArg (fun v => some (Value.int v)) (show (1 : Int32) = f1_buy (10) (1) by have e0 : (10 : Int32).toInt = 10 := rfl; have e1 : (1 : Int32).toInt = 1 := rfl; exact ite_eq_of (fun _ => ite_eq_of (fun hc => absurd hc (by omega)) (fun _ => ite_eq_of (fun _ => ite_eq_of (fun hc => absurd hc (by omega)) (fun _ => ite_eq_of (fun hc => absurd hc (by omega)) (fun _ => ite_eq_of (fun hc => absurd hc (by omega)) (fun _ => rfl)))) (fun hc => absurd (by omega) hc))) (fun hc => absurd (by omega) hc)), rfl, fun x hx => (gU_o (by omega)).trans ((gU_o (by omega)).trans ((gU_o (by omega)).trans ((gU_o (by omega)).trans ((gU_o (by omega)).trans ((gU_o (by omega)).trans ((gU_o (by omega)).trans ((gU_o (by omega)).trans ((gU_o (by omega)).trans ((gU_o (by omega)).trans ((gU_o (by omega)).trans ((gU_o (by omega)).trans ((gU_o (by omega)).trans ((gU_o (by omega)).trans ((gU_o (by omega)).trans ((gU_o (by omega)).trans (gU_o (by omega))))))))))))))))), fun x hx => (gU_o (by omega)).trans ((gU_o (by omega)).trans ((gU_o (by omega)).trans ((gU_o (by omega)).trans ((gU_o (by omega)).trans ((gU_o (by omega)).trans ((gU_o (by omega)).trans ((gU_o (by omega)).trans ((gU_o (by omega)).trans ((gU_o (by omega)).trans ((gU_o (by omega)).trans ((gU_o (by omega)).trans ((gU_o (by omega)).trans ((gU_o (by omega)).trans ((gU_o (by omega)).trans ((gU_o (by omega)).trans (gU_o (by omega))))))))))))))))), fun x hx => rfl⟩
                              · refine w_lload rfl rfl ?_
                                refine w_aload rfl rfl ?_
                                refine w_getLv (x := 173984) rfl rfl (gU_e) ?_
                                refine w_lmulv (z := 521952) rfl (by decide) ?_
                                refine w_pushL rfl ?_
                                refine w_lload rfl rfl ?_
                                refine w_lsubv (z := 9) rfl (by decide) ?_
                                refine w_lload rfl rfl ?_
                                refine w_lmulv (z := 1025856) rfl (by decide) ?_
                                refine w_laddv (z := 1547808) rfl (by decide) ?_
                                refine w_pushL rfl ?_
                                refine w_ldivv (z := 128984) rfl (by decide) (by decide) ?_
                                refine w_lstore rfl rfl ?_
                                refine w_aload rfl rfl ?_
                                refine w_pushL rfl ?_
                                refine w_iload rfl rfl ?_
                                refine w_i2lv (z := 20) rfl (by decide) ?_
                                refine w_lmulv (z := 20000) rfl (by decide) ?_
                                refine w_aload rfl rfl ?_
                                refine w_getLv (x := 173984) rfl rfl (gU_e) ?_
                                refine w_laddv (z := 193984) rfl (by decide) ?_
                                refine w_lload rfl rfl ?_
                                refine w_lload rfl rfl ?_
                                refine w_laddv (z := 188984) rfl (by decide) ?_
                                refine w_lload rfl rfl ?_
                                refine w_lload rfl rfl ?_
                                refine w_laddv (z := 218984) rfl (by decide) ?_
                                refine w_callVi (As := [_, _, _]) (le := [some _, some _, none, some _, none, some _, none]) rfl rfl rfl (by decide) (Nat.le_of_ble_eq_true rfl) rfl ?_
                                refine w_aload rfl rfl ?_
                                refine w_lload rfl rfl ?_
                                refine w_putL rfl rfl ?_
                                refine w_aload rfl rfl ?_
                                refine w_pushI rfl ?_
                                refine w_putI rfl rfl ?_
                                refine w_lload rfl rfl ?_
                                refine w_aload rfl rfl ?_
                                refine w_getLv (x := 193984) rfl rfl (gU_e) ?_
                                refine w_lcmpv (z := (-1)) rfl (by decide) ?_
                                refine w_if_ge rfl (fun h => absurd h (by decide)) (fun _ => ?_)
                                refine w_aload rfl rfl ?_
                                refine w_lload rfl rfl ?_
                                refine w_putL rfl rfl ?_
                                refine w_aload rfl rfl ?_
                                refine w_pushI rfl ?_
                                refine w_putI rfl rfl ?_
                                refine w_lload rfl rfl ?_
                                refine w_aload rfl rfl ?_
                                refine w_getLv (x := 188984) rfl rfl (gU_e) ?_
                                refine w_lcmpv (z := 1) rfl (by decide) ?_
                                refine w_if_ge rfl (fun _ => ?_) (fun h => absurd (by decide) h)
                                refine w_vret rfl rfl ?_
                                show gW _ _ _ _ _ _ _ _ _ _
                                refine w_iincv (z := 11) rfl rfl (by decide) rfl ?_
                                refine w_goto rfl ?_
                                refine w_iload rfl rfl ?_
                                refine w_iload rfl rfl ?_
                                refine w_icmp_geZ (a := 11) rfl (by decide) rfl (fun h17 => ?_) (fun h17 => ?_)
                                · obtain rfl : a = 11 := i_is (show a.toInt = 11 by omega) (by decide)
                                  refine w_vret rfl rfl ?_
                                  show gW _ _ _ _ _ _ _ _ _ _
                                  refine w_iload rfl rfl ?_
                                  refine w_topv (z := 1) (by decide) ?_
                                  refine w_if_ne rfl (fun _ => ?_) (fun h => absurd h (by decide))
                                  refine w_aload rfl rfl ?_
                                  refine w_getR (r := 22) rfl rfl (hR _ fmR_0_5) ?_
                                  refine w_getIv (x := 1) rfl rfl (gU_e) ?_
                                  refine w_iret rfl (Or.inl rfl) ?_
                                  exact ⟨congrArg (fun v => some (Value.int v)) (show (1 : Int32) = f1_buy (11) (1) by have e0 : (11 : Int32).toInt = 11 := rfl; have e1 : (1 : Int32).toInt = 1 := rfl; exact ite_eq_of (fun _ => ite_eq_of (fun hc => absurd hc (by omega)) (fun _ => ite_eq_of (fun hc => absurd hc (by omega)) (fun _ => ite_eq_of (fun _ => ite_eq_of (fun _ => ite_eq_of (fun _ => ite_eq_of (fun _ => rfl) (fun hc => absurd (by omega) hc)) (fun hc => absurd (by omega) hc)) (fun hc => absurd (by omega) hc)) (fun hc => absurd (by omega) hc)))) (fun hc => absurd (by omega) hc)), rfl, fun x hx => (gU_o (by omega)).trans ((gU_o (by omega)).trans ((gU_o (by omega)).trans ((gU_o (by omega)).trans ((gU_o (by omega)).trans ((gU_o (by omega)).trans ((gU_o (by omega)).trans ((gU_o (by omega)).trans ((gU_o (by omega)).trans ((gU_o (by omega)).trans ((gU_o (by omega)).trans ((gU_o (by omega)).trans ((gU_o (by omega)).trans ((gU_o (by omega)).trans ((gU_o (by omega)).trans ((gU_o (by omega)).trans ((gU_o (by omega)).trans ((gU_o (by omega)).trans (gU_o (by omega))))))))))))))))))), fun x hx => (gU_o (by omega)).trans ((gU_o (by omega)).trans ((gU_o (by omega)).trans ((gU_o (by omega)).trans ((gU_o (by omega)).trans ((gU_o (by omega)).trans ((gU_o (by omega)).trans ((gU_o (by omega)).trans ((gU_o (by omega)).trans ((gU_o (by omega)).trans ((gU_o (by omega)).trans ((gU_o (by omega)).trans ((gU_o (by omega)).trans ((gU_o (by omega)).trans ((gU_o (by omega)).trans ((gU_o (by omega)).trans ((gU_o (by omega)).trans ((gU_o (by omega)).trans (gU_o (by omega))))))))))))))))))), fun x hx => rfl⟩
                                · refine w_lload rfl rfl ?_
                                  refine w_aload rfl rfl ?_
                                  refine w_getLv (x := 188984) rfl rfl (gU_e) ?_
                                  refine w_lmulv (z := 566952) rfl (by decide) ?_
                                  refine w_pushL rfl ?_
                                  refine w_lload rfl rfl ?_
                                  refine w_lsubv (z := 9) rfl (by decide) ?_
                                  refine w_lload rfl rfl ?_
                                  refine w_lmulv (z := 1160856) rfl (by decide) ?_
                                  refine w_laddv (z := 1727808) rfl (by decide) ?_
                                  refine w_pushL rfl ?_
                                  refine w_ldivv (z := 143984) rfl (by decide) (by decide) ?_
                                  refine w_lstore rfl rfl ?_
                                  refine w_aload rfl rfl ?_
                                  refine w_pushL rfl ?_
                                  refine w_iload rfl rfl ?_
                                  refine w_i2lv (z := 20) rfl (by decide) ?_
                                  refine w_lmulv (z := 20000) rfl (by decide) ?_
                                  refine w_aload rfl rfl ?_
                                  refine w_getLv (x := 188984) rfl rfl (gU_e) ?_
                                  refine w_laddv (z := 208984) rfl (by decide) ?_
                                  refine w_lload rfl rfl ?_
                                  refine w_lload rfl rfl ?_
                                  refine w_laddv (z := 203984) rfl (by decide) ?_
                                  refine w_lload rfl rfl ?_
                                  refine w_lload rfl rfl ?_
                                  refine w_laddv (z := 233984) rfl (by decide) ?_
                                  refine w_callVi (As := [_, _, _]) (le := [some _, some _, none, some _, none, some _, none]) rfl rfl rfl (by decide) (Nat.le_of_ble_eq_true rfl) rfl ?_
                                  refine w_aload rfl rfl ?_
                                  refine w_lload rfl rfl ?_
                                  refine w_putL rfl rfl ?_
                                  refine w_aload rfl rfl ?_
                                  refine w_pushI rfl ?_
                                  refine w_putI rfl rfl ?_
                                  refine w_lload rfl rfl ?_
                                  refine w_aload rfl rfl ?_
                                  refine w_getLv (x := 208984) rfl rfl (gU_e) ?_
                                  refine w_lcmpv (z := (-1)) rfl (by decide) ?_
                                  refine w_if_ge rfl (fun h => absurd h (by decide)) (fun _ => ?_)
                                  refine w_aload rfl rfl ?_
                                  refine w_lload rfl rfl ?_
                                  refine w_putL rfl rfl ?_
                                  refine w_aload rfl rfl ?_
                                  refine w_pushI rfl ?_
                                  refine w_putI rfl rfl ?_
                                  refine w_lload rfl rfl ?_
                                  refine w_aload rfl rfl ?_
                                  refine w_getLv (x := 203984) rfl rfl (gU_e) ?_
                                  refine w_lcmpv (z := 1) rfl (by decide) ?_
                                  refine w_if_ge rfl (fun _ => ?_) (fun h => absurd (by decide) h)
                                  refine w_vret rfl rfl ?_
                                  show gW _ _ _ _ _ _ _ _ _ _
                                  refine w_iincv (z := 12) rfl rfl (by decide) rfl ?_
                                  refine w_goto rfl ?_
                                  refine w_iload rfl rfl ?_
                                  refine w_iload rfl rfl ?_
                                  refine w_icmp_geZ (a := 12) rfl (by decide) rfl (fun h18 => ?_) (fun h18 => ?_)
                                  · obtain rfl : a = 12 := i_is (show a.toInt = 12 by omega) (by decide)
                                    refine w_vret rfl rfl ?_
                                    show gW _ _ _ _ _ _ _ _ _ _
                                    refine w_iload rfl rfl ?_
                                    refine w_topv (z := 1) (by decide) ?_
                                    refine w_if_ne rfl (fun _ => ?_) (fun h => absurd h (by decide))
                                    refine w_aload rfl rfl ?_
                                    refine w_getR (r := 22) rfl rfl (hR _ fmR_0_5) ?_
                                    refine w_getIv (x := 1) rfl rfl (gU_e) ?_
                                    refine w_iret rfl (Or.inl rfl) ?_
                                    exact ⟨congrArg (fun v => some (Value.int v)) (show (1 : Int32) = f1_buy (12) (1) by have e0 : (12 : Int32).toInt = 12 := rfl; have e1 : (1 : Int32).toInt = 1 := rfl; exact ite_eq_of (fun _ => ite_eq_of (fun hc => absurd hc (by omega)) (fun _ => ite_eq_of (fun hc => absurd hc (by omega)) (fun _ => ite_eq_of (fun _ => ite_eq_of (fun _ => ite_eq_of (fun _ => ite_eq_of (fun hc => absurd hc (by omega)) (fun _ => rfl)) (fun hc => absurd (by omega) hc)) (fun hc => absurd (by omega) hc)) (fun hc => absurd (by omega) hc)))) (fun hc => absurd (by omega) hc)), rfl, fun x hx => (gU_o (by omega)).trans ((gU_o (by omega)).trans ((gU_o (by omega)).trans ((gU_o (by omega)).trans ((gU_o (by omega)).trans ((gU_o (by omega)).trans ((gU_o (by omega)).trans ((gU_o (by omega)).trans ((gU_o (by omega)).trans ((gU_o (by omega)).trans ((gU_o (by omega)).trans ((gU_o (by omega)).trans ((gU_o (by omega)).trans ((gU_o (by omega)).trans ((gU_o (by omega)).trans ((gU_o (by omega)).trans ((gU_o (by omega)).trans ((gU_o (by omega)).trans ((gU_o (by omega)).trans ((gU_o (by omega)).trans (gU_o (by omega))))))))))))))))))))), fun x hx => (gU_o (by omega)).trans ((gU_o (by omega)).trans ((gU_o (by omega)).trans ((gU_o (by omega)).trans ((gU_o (by omega)).trans ((gU_o (by omega)).trans ((gU_o (by omega)).trans ((gU_o (by omega)).trans ((gU_o (by omega)).trans ((gU_o (by omega)).trans ((gU_o (by omega)).trans ((gU_o (by omega)).trans ((gU_o (by omega)).trans ((gU_o (by omega)).trans ((gU_o (by omega)).trans ((gU_o (by omega)).trans ((gU_o (by omega)).trans ((gU_o (by omega)).trans ((gU_o (by omega)).trans ((gU_o (by omega)).trans (gU_o (by omega))))))))))))))))))))), fun x hx => rfl⟩
                                  · refine w_lload rfl rfl ?_
                                    refine w_aload rfl rfl ?_
                                    refine w_getLv (x := 203984) rfl rfl (gU_e) ?_
                                    refine w_lmulv (z := 611952) rfl (by decide) ?_
                                    refine w_pushL rfl ?_
                                    refine w_lload rfl rfl ?_
                                    refine w_lsubv (z := 9) rfl (by decide) ?_
                                    refine w_lload rfl rfl ?_
                                    refine w_lmulv (z := 1295856) rfl (by decide) ?_
                                    refine w_laddv (z := 1907808) rfl (by decide) ?_
                                    refine w_pushL rfl ?_
                                    refine w_ldivv (z := 158984) rfl (by decide) (by decide) ?_
                                    refine w_lstore rfl rfl ?_
                                    refine w_aload rfl rfl ?_
                                    refine w_pushL rfl ?_
                                    refine w_iload rfl rfl ?_
                                    refine w_i2lv (z := 20) rfl (by decide) ?_
                                    refine w_lmulv (z := 20000) rfl (by decide) ?_
                                    refine w_aload rfl rfl ?_
                                    refine w_getLv (x := 203984) rfl rfl (gU_e) ?_
                                    refine w_laddv (z := 223984) rfl (by decide) ?_
                                    refine w_lload rfl rfl ?_
                                    refine w_lload rfl rfl ?_
                                    refine w_laddv (z := 218984) rfl (by decide) ?_
                                    refine w_lload rfl rfl ?_
                                    refine w_lload rfl rfl ?_
                                    refine w_laddv (z := 248984) rfl (by decide) ?_
                                    refine w_callVi (As := [_, _, _]) (le := [some _, some _, none, some _, none, some _, none]) rfl rfl rfl (by decide) (Nat.le_of_ble_eq_true rfl) rfl ?_
                                    refine w_aload rfl rfl ?_
                                    refine w_lload rfl rfl ?_
                                    refine w_putL rfl rfl ?_
                                    refine w_aload rfl rfl ?_
                                    refine w_pushI rfl ?_
                                    refine w_putI rfl rfl ?_
                                    refine w_lload rfl rfl ?_
                                    refine w_aload rfl rfl ?_
                                    refine w_getLv (x := 223984) rfl rfl (gU_e) ?_
                                    refine w_lcmpv (z := (-1)) rfl (by decide) ?_
                                    refine w_if_ge rfl (fun h => absurd h (by decide)) (fun _ => ?_)
                                    refine w_aload rfl rfl ?_
                                    refine w_lload rfl rfl ?_
                                    refine w_putL rfl rfl ?_
                                    refine w_aload rfl rfl ?_
                                    refine w_pushI rfl ?_
                                    refine w_putI rfl rfl ?_
                                    refine w_lload rfl rfl ?_
                                    refine w_aload rfl rfl ?_
                                    refine w_getLv (x := 218984) rfl rfl (gU_e) ?_
                                    refine w_lcmpv (z := 1) rfl (by decide) ?_
                                    refine w_if_ge rfl (fun _ => ?_) (fun h => absurd (by decide) h)
                                    refine w_vret rfl rfl ?_
                                    show gW _ _ _ _ _ _ _ _ _ _
                                    refine w_iincv (z := 13) rfl rfl (by decide) rfl ?_
                                    refine w_goto rfl ?_
                                    refine w_iload rfl rfl ?_
                                    refine w_iload rfl rfl ?_
                                    refine w_icmp_geZ (a := 13) rfl (by decide) rfl (fun h19 => ?_) (fun h19 => ?_)
                                    · obtain rfl : a = 13 := i_is (show a.toInt = 13 by omega) (by decide)
                                      refine w_vret rfl rfl ?_
                                      show gW _ _ _ _ _ _ _ _ _ _
                                      refine w_iload rfl rfl ?_
                                      refine w_topv (z := 1) (by decide) ?_
                                      refine w_if_ne rfl (fun _ => ?_) (fun h => absurd h (by decide))
                                      refine w_aload rfl rfl ?_
                                      refine w_getR (r := 22) rfl rfl (hR _ fmR_0_5) ?_
                                      refine w_getIv (x := 1) rfl rfl (gU_e) ?_
                                      refine w_iret rfl (Or.inl rfl) ?_
                                      exact ⟨congrArg (fun v => some (Value.int v)) (show (1 : Int32) = f1_buy (13) (1) by have e0 : (13 : Int32).toInt = 13 := rfl; have e1 : (1 : Int32).toInt = 1 := rfl; exact ite_eq_of (fun _ => ite_eq_of (fun hc => absurd hc (by omega)) (fun _ => ite_eq_of (fun hc => absurd hc (by omega)) (fun _ => ite_eq_of (fun _ => ite_eq_of (fun _ => ite_eq_of (fun hc => absurd hc (by omega)) (fun _ => rfl)) (fun hc => absurd (by omega) hc)) (fun hc => absurd (by omega) hc)))) (fun hc => absurd (by omega) hc)), rfl, fun x hx => (gU_o (by omega)).trans ((gU_o (by omega)).trans ((gU_o (by omega)).trans ((gU_o (by omega)).trans ((gU_o (by omega)).trans ((gU_o (by omega)).trans ((gU_o (by omega)).trans ((gU_o (by omega)).trans ((gU_o (by omega)).trans ((gU_o (by omega)).trans ((gU_o (by omega)).trans ((gU_o (by omega)).trans ((gU_o (by omega)).trans ((gU_o (by omega)).trans ((gU_o (by omega)).trans ((gU_o (by omega)).trans ((gU_o (by omega)).trans ((gU_o (by omega)).trans ((gU_o (by omega)).trans ((gU_o (by omega)).trans ((gU_o (by omega)).trans ((gU_o (by omega)).trans (gU_o (by omega))))))))))))))))))))))), fun x hx => (gU_o (by omega)).trans ((gU_o (by omega)).trans ((gU_o (by omega)).trans ((gU_o (by omega)).trans ((gU_o (by omega)).trans ((gU_o (by omega)).trans ((gU_o (by omega)).trans ((gU_o (by omega)).trans ((gU_o (by omega)).trans ((gU_o (by omega)).trans ((gU_o (by omega)).trans ((gU_o (by omega)).trans ((gU_o (by omega)).trans ((gU_o (by omega)).trans ((gU_o (by omega)).trans ((gU_o (by omega)).trans ((gU_o (by omega)).trans ((gU_o (by omega)).trans ((gU_o (by omega)).trans ((gU_o (by omega)).trans ((gU_o (by omega)).trans ((gU_o (by omega)).trans (gU_o (by omega))))))))))))))))))))))), fun x hx => rfl⟩
                                    · refine w_lload rfl rfl ?_
                                      refine w_aload rfl rfl ?_
                                      refine w_getLv (x := 218984) rfl rfl (gU_e) ?_
                                      refine w_lmulv (z := 656952) rfl (by decide) ?_
                                      refine w_pushL rfl ?_
                                      refine w_lload rfl rfl ?_
                                      refine w_lsubv (z := 9) rfl (by decide) ?_
                                      refine w_lload rfl rfl ?_
                                      refine w_lmulv (z := 1430856) rfl (by decide) ?_
                                      refine w_laddv (z := 2087808) rfl (by decide) ?_
                                      refine w_pushL rfl ?_
                                      refine w_ldivv (z := 173984) rfl (by decide) (by decide) ?_
                                      refine w_lstore rfl rfl ?_
                                      refine w_aload rfl rfl ?_
                                      refine w_pushL rfl ?_
                                      refine w_iload rfl rfl ?_
                                      refine w_i2lv (z := 20) rfl (by decide) ?_
                                      refine w_lmulv (z := 20000) rfl (by decide) ?_
                                      refine w_aload rfl rfl ?_
                                      refine w_getLv (x := 218984) rfl rfl (gU_e) ?_
                                      refine w_laddv (z := 238984) rfl (by decide) ?_
                                      refine w_lload rfl rfl ?_
                                      refine w_lload rfl rfl ?_
                                      refine w_laddv (z := 233984) rfl (by decide) ?_
                                      refine w_lload rfl rfl ?_
                                      refine w_lload rfl rfl ?_
                                      refine w_laddv (z := 263984) rfl (by decide) ?_
                                      refine w_callVi (As := [_, _, _]) (le := [some _, some _, none, some _, none, some _, none]) rfl rfl rfl (by decide) (Nat.le_of_ble_eq_true rfl) rfl ?_
                                      refine w_aload rfl rfl ?_
                                      refine w_lload rfl rfl ?_
                                      refine w_putL rfl rfl ?_
                                      refine w_aload rfl rfl ?_
                                      refine w_pushI rfl ?_
                                      refine w_putI rfl rfl ?_
                                      refine w_lload rfl rfl ?_
                                      refine w_aload rfl rfl ?_
                                      refine w_getLv (x := 238984) rfl rfl (gU_e) ?_
                                      refine w_lcmpv (z := (-1)) rfl (by decide) ?_
                                      refine w_if_ge rfl (fun h => absurd h (by decide)) (fun _ => ?_)
                                      refine w_aload rfl rfl ?_
                                      refine w_lload rfl rfl ?_
                                      refine w_putL rfl rfl ?_
                                      refine w_aload rfl rfl ?_
                                      refine w_pushI rfl ?_
                                      refine w_putI rfl rfl ?_
                                      refine w_lload rfl rfl ?_
                                      refine w_aload rfl rfl ?_
                                      refine w_getLv (x := 233984) rfl rfl (gU_e) ?_
                                      refine w_lcmpv (z := 1) rfl (by decide) ?_
                                      refine w_if_ge rfl (fun _ => ?_) (fun h => absurd (by decide) h)
                                      refine w_vret rfl rfl ?_
                                      show gW _ _ _ _ _ _ _ _ _ _
                                      refine w_iincv (z := 14) rfl rfl (by decide) rfl ?_
                                      refine w_goto rfl ?_
                                      refine w_iload rfl rfl ?_
                                      refine w_iload rfl rfl ?_
                                      refine w_icmp_geZ (a := 14) rfl (by decide) rfl (fun h20 => ?_) (fun h20 => ?_)
                                      · obtain rfl : a = 14 := i_is (show a.toInt = 14 by omega) (by decide)
                                        refine w_vret rfl rfl ?_
                                        show gW _ _ _ _ _ _ _ _ _ _
                                        refine w_iload rfl rfl ?_
                                        refine w_topv (z := 1) (by decide) ?_
                                        refine w_if_ne rfl (fun _ => ?_) (fun h => absurd h (by decide))
                                        refine w_aload rfl rfl ?_
                                        refine w_getR (r := 22) rfl rfl (hR _ fmR_0_5) ?_
                                        refine w_getIv (x := 1) rfl rfl (gU_e) ?_
                                        refine w_iret rfl (Or.inl rfl) ?_
                                        exact ⟨congrArg (fun v => some (Value.int v)) (show (1 : Int32) = f1_buy (14) (1) by have e0 : (14 : Int32).toInt = 14 := rfl; have e1 : (1 : Int32).toInt = 1 := rfl; exact ite_eq_of (fun _ => ite_eq_of (fun hc => absurd hc (by omega)) (fun _ => ite_eq_of (fun hc => absurd hc (by omega)) (fun _ => ite_eq_of (fun _ => ite_eq_of (fun hc => absurd hc (by omega)) (fun _ => ite_eq_of (fun _ => rfl) (fun hc => absurd (by omega) hc))) (fun hc => absurd (by omega) hc)))) (fun hc => absurd (by omega) hc)), rfl, fun x hx => (gU_o (by omega)).trans ((gU_o (by omega)).trans ((gU_o (by omega)).trans ((gU_o (by omega)).trans ((gU_o (by omega)).trans ((gU_o (by omega)).trans ((gU_o (by omega)).trans ((gU_o (by omega)).trans ((gU_o (by omega)).trans ((gU_o (by omega)).trans ((gU_o (by omega)).trans ((gU_o (by omega)).trans ((gU_o (by omega)).trans ((gU_o (by omega)).trans ((gU_o (by omega)).trans ((gU_o (by omega)).trans ((gU_o (by omega)).trans ((gU_o (by omega)).trans ((gU_o (by omega)).trans ((gU_o (by omega)).trans ((gU_o (by omega)).trans ((gU_o (by omega)).trans ((gU_o (by omega)).trans ((gU_o (by omega)).trans (gU_o (by omega))))))))))))))))))))))))), fun x hx => (gU_o (by omega)).trans ((gU_o (by omega)).trans ((gU_o (by omega)).trans ((gU_o (by omega)).trans ((gU_o (by omega)).trans ((gU_o (by omega)).trans ((gU_o (by omega)).trans ((gU_o (by omega)).trans ((gU_o (by omega)).trans ((gU_o (by omega)).trans ((gU_o (by omega)).trans ((gU_o (by omega)).trans ((gU_o (by omega)).trans ((gU_o (by omega)).trans ((gU_o (by omega)).trans ((gU_o (by omega)).trans ((gU_o (by omega)).trans ((gU_o (by omega)).trans ((gU_o (by omega)).trans ((gU_o (by omega)).trans ((gU_o (by omega)).trans ((gU_o (by omega)).trans ((gU_o (by omega)).trans ((gU_o (by omega)).trans (gU_o (by omega))))))))))))))))))))))))), fun x hx => rfl⟩
                                      · refine w_lload rfl rfl ?_
                                        refine w_aload rfl rfl ?_
                                        refine w_getLv (x := 233984) rfl rfl (gU_e) ?_
                                        refine w_lmulv (z := 701952) rfl (by decide) ?_
                                        refine w_pushL rfl ?_
                                        refine w_lload rfl rfl ?_
                                        refine w_lsubv (z := 9) rfl (by decide) ?_
                                        refine w_lload rfl rfl ?_
                                        refine w_lmulv (z := 1565856) rfl (by decide) ?_
                                        refine w_laddv (z := 2267808) rfl (by decide) ?_
                                        refine w_pushL rfl ?_
                                        refine w_ldivv (z := 188984) rfl (by decide) (by decide) ?_
                                        refine w_lstore rfl rfl ?_
                                        refine w_aload rfl rfl ?_
                                        refine w_pushL rfl ?_
                                        refine w_iload rfl rfl ?_
                                        refine w_i2lv (z := 20) rfl (by decide) ?_
                                        refine w_lmulv (z := 20000) rfl (by decide) ?_
                                        refine w_aload rfl rfl ?_
                                        refine w_getLv (x := 233984) rfl rfl (gU_e) ?_
                                        refine w_laddv (z := 253984) rfl (by decide) ?_
                                        refine w_lload rfl rfl ?_
                                        refine w_lload rfl rfl ?_
                                        refine w_laddv (z := 248984) rfl (by decide) ?_
                                        refine w_lload rfl rfl ?_
                                        refine w_lload rfl rfl ?_
                                        refine w_laddv (z := 278984) rfl (by decide) ?_
                                        refine w_callVi (As := [_, _, _]) (le := [some _, some _, none, some _, none, some _, none]) rfl rfl rfl (by decide) (Nat.le_of_ble_eq_true rfl) rfl ?_
                                        refine w_aload rfl rfl ?_
                                        refine w_lload rfl rfl ?_
                                        refine w_putL rfl rfl ?_
                                        refine w_aload rfl rfl ?_
                                        refine w_pushI rfl ?_
                                        refine w_putI rfl rfl ?_
                                        refine w_lload rfl rfl ?_
                                        refine w_aload rfl rfl ?_
                                        refine w_getLv (x := 253984) rfl rfl (gU_e) ?_
                                        refine w_lcmpv (z := (-1)) rfl (by decide) ?_
                                        refine w_if_ge rfl (fun h => absurd h (by decide)) (fun _ => ?_)
                                        refine w_aload rfl rfl ?_
                                        refine w_lload rfl rfl ?_
                                        refine w_putL rfl rfl ?_
                                        refine w_aload rfl rfl ?_
                                        refine w_pushI rfl ?_
                                        refine w_putI rfl rfl ?_
                                        refine w_lload rfl rfl ?_
                                        refine w_aload rfl rfl ?_
                                        refine w_getLv (x := 248984) rfl rfl (gU_e) ?_
                                        refine w_lcmpv (z := 1) rfl (by decide) ?_
                                        refine w_if_ge rfl (fun _ => ?_) (fun h => absurd (by decide) h)
                                        refine w_vret rfl rfl ?_
                                        show gW _ _ _ _ _ _ _ _ _ _
                                        refine w_iincv (z := 15) rfl rfl (by decide) rfl ?_
                                        refine w_goto rfl ?_
                                        refine w_iload rfl rfl ?_
                                        refine w_iload rfl rfl ?_
                                        refine w_icmp_geZ (a := 15) rfl (by decide) rfl (fun h21 => ?_) (fun h21 => ?_)
                                        · obtain rfl : a = 15 := i_is (show a.toInt = 15 by omega) (by decide)
                                          refine w_vret rfl rfl ?_
                                          show gW _ _ _ _ _ _ _ _ _ _
                                          refine w_iload rfl rfl ?_
                                          refine w_topv (z := 1) (by decide) ?_
                                          refine w_if_ne rfl (fun _ => ?_) (fun h => absurd h (by decide))
                                          refine w_aload rfl rfl ?_
                                          refine w_getR (r := 22) rfl rfl (hR _ fmR_0_5) ?_
                                          refine w_getIv (x := 1) rfl rfl (gU_e) ?_
                                          refine w_iret rfl (Or.inl rfl) ?_
                                          exact ⟨congrArg (fun v => some (Value.int v)) (show (1 : Int32) = f1_buy (15) (1) by have e0 : (15 : Int32).toInt = 15 := rfl; have e1 : (1 : Int32).toInt = 1 := rfl; exact ite_eq_of (fun _ => ite_eq_of (fun hc => absurd hc (by omega)) (fun _ => ite_eq_of (fun hc => absurd hc (by omega)) (fun _ => ite_eq_of (fun _ => ite_eq_of (fun hc => absurd hc (by omega)) (fun _ => ite_eq_of (fun hc => absurd hc (by omega)) (fun _ => rfl))) (fun hc => absurd (by omega) hc)))) (fun hc => absurd (by omega) hc)), rfl, fun x hx => (gU_o (by omega)).trans ((gU_o (by omega)).trans ((gU_o (by omega)).trans ((gU_o (by omega)).trans ((gU_o (by omega)).trans ((gU_o (by omega)).trans ((gU_o (by omega)).trans ((gU_o (by omega)).trans ((gU_o (by omega)).trans ((gU_o (by omega)).trans ((gU_o (by omega)).trans ((gU_o (by omega)).trans ((gU_o (by omega)).trans ((gU_o (by omega)).trans ((gU_o (by omega)).trans ((gU_o (by omega)).trans ((gU_o (by omega)).trans ((gU_o (by omega)).trans ((gU_o (by omega)).trans ((gU_o (by omega)).trans ((gU_o (by omega)).trans ((gU_o (by omega)).trans ((gU_o (by omega)).trans ((gU_o (by omega)).trans ((gU_o (by omega)).trans ((gU_o (by omega)).trans (gU_o (by omega))))))))))))))))))))))))))), fun x hx => (gU_o (by omega)).trans ((gU_o (by omega)).trans ((gU_o (by omega)).trans ((gU_o (by omega)).trans ((gU_o (by omega)).trans ((gU_o (by omega)).trans ((gU_o (by omega)).trans ((gU_o (by omega)).trans ((gU_o (by omega)).trans ((gU_o (by omega)).trans ((gU_o (by omega)).trans ((gU_o (by omega)).trans ((gU_o (by omega)).trans ((gU_o (by omega)).trans ((gU_o (by omega)).trans ((gU_o (by omega)).trans ((gU_o (by omega)).trans ((gU_o (by omega)).trans ((gU_o (by omega)).trans ((gU_o (by omega)).trans ((gU_o (by omega)).trans ((gU_o (by omega)).trans ((gU_o (by omega)).trans ((gU_o (by omega)).trans ((gU_o (by omega)).trans ((gU_o (by omega)).trans (gU_o (by omega))))))))))))))))))))))))))), fun x hx => rfl⟩
                                        · refine w_lload rfl rfl ?_
                                          refine w_aload rfl rfl ?_
                                          refine w_getLv (x := 248984) rfl rfl (gU_e) ?_
                                          refine w_lmulv (z := 746952) rfl (by decide) ?_
                                          refine w_pushL rfl ?_
                                          refine w_lload rfl rfl ?_
                                          refine w_lsubv (z := 9) rfl (by decide) ?_
                                          refine w_lload rfl rfl ?_
                                          refine w_lmulv (z := 1700856) rfl (by decide) ?_
                                          refine w_laddv (z := 2447808) rfl (by decide) ?_
                                          refine w_pushL rfl ?_
                                          refine w_ldivv (z := 203984) rfl (by decide) (by decide) ?_
                                          refine w_lstore rfl rfl ?_
                                          refine w_aload rfl rfl ?_
                                          refine w_pushL rfl ?_
                                          refine w_iload rfl rfl ?_
                                          refine w_i2lv (z := 20) rfl (by decide) ?_
                                          refine w_lmulv (z := 20000) rfl (by decide) ?_
                                          refine w_aload rfl rfl ?_
                                          refine w_getLv (x := 248984) rfl rfl (gU_e) ?_
                                          refine w_laddv (z := 268984) rfl (by decide) ?_
                                          refine w_lload rfl rfl ?_
                                          refine w_lload rfl rfl ?_
                                          refine w_laddv (z := 263984) rfl (by decide) ?_
                                          refine w_lload rfl rfl ?_
                                          refine w_lload rfl rfl ?_
                                          refine w_laddv (z := 293984) rfl (by decide) ?_
                                          refine w_callVi (As := [_, _, _]) (le := [some _, some _, none, some _, none, some _, none]) rfl rfl rfl (by decide) (Nat.le_of_ble_eq_true rfl) rfl ?_
                                          refine w_aload rfl rfl ?_
                                          refine w_lload rfl rfl ?_
                                          refine w_putL rfl rfl ?_
                                          refine w_aload rfl rfl ?_
                                          refine w_pushI rfl ?_
                                          refine w_putI rfl rfl ?_
                                          refine w_lload rfl rfl ?_
                                          refine w_aload rfl rfl ?_
                                          refine w_getLv (x := 268984) rfl rfl (gU_e) ?_
                                          refine w_lcmpv (z := (-1)) rfl (by decide) ?_
                                          refine w_if_ge rfl (fun h => absurd h (by decide)) (fun _ => ?_)
                                          refine w_aload rfl rfl ?_
                                          refine w_lload rfl rfl ?_
                                          refine w_putL rfl rfl ?_
                                          refine w_aload rfl rfl ?_
                                          refine w_pushI rfl ?_
                                          refine w_putI rfl rfl ?_
                                          refine w_lload rfl rfl ?_
                                          refine w_aload rfl rfl ?_
                                          refine w_getLv (x := 263984) rfl rfl (gU_e) ?_
                                          refine w_lcmpv (z := 1) rfl (by decide) ?_
                                          refine w_if_ge rfl (fun _ => ?_) (fun h => absurd (by decide) h)
                                          refine w_vret rfl rfl ?_
                                          show gW _ _ _ _ _ _ _ _ _ _
                                          refine w_iincv (z := 16) rfl rfl (by decide) rfl ?_
                                          refine w_goto rfl ?_
                                          refine w_iload rfl rfl ?_
                                          refine w_iload rfl rfl ?_
                                          refine w_icmp_geZ (a := 16) rfl (by decide) rfl (fun h22 => ?_) (fun h22 => ?_)
                                          · obtain rfl : a = 16 := i_is (show a.toInt = 16 by omega) (by decide)
                                            refine w_vret rfl rfl ?_
                                            show gW _ _ _ _ _ _ _ _ _ _
                                            refine w_iload rfl rfl ?_
                                            refine w_topv (z := 1) (by decide) ?_
                                            refine w_if_ne rfl (fun _ => ?_) (fun h => absurd h (by decide))
                                            refine w_aload rfl rfl ?_
                                            refine w_getR (r := 22) rfl rfl (hR _ fmR_0_5) ?_
                                            refine w_getIv (x := 1) rfl rfl (gU_e) ?_
                                            refine w_iret rfl (Or.inl rfl) ?_
                                            exact ⟨congrArg (fun v => some (Value.int v)) (show (1 : Int32) = f1_buy (16) (1) by have e0 : (16 : Int32).toInt = 16 := rfl; have e1 : (1 : Int32).toInt = 1 := rfl; exact ite_eq_of (fun _ => ite_eq_of (fun hc => absurd hc (by omega)) (fun _ => ite_eq_of (fun hc => absurd hc (by omega)) (fun _ => ite_eq_of (fun hc => absurd hc (by omega)) (fun _ => ite_eq_of (fun _ => ite_eq_of (fun _ => ite_eq_of (fun _ => rfl) (fun hc => absurd (by omega) hc)) (fun hc => absurd (by omega) hc)) (fun hc => absurd (by omega) hc))))) (fun hc => absurd (by omega) hc)), rfl, fun x hx => (gU_o (by omega)).trans ((gU_o (by omega)).trans ((gU_o (by omega)).trans ((gU_o (by omega)).trans ((gU_o (by omega)).trans ((gU_o (by omega)).trans ((gU_o (by omega)).trans ((gU_o (by omega)).trans ((gU_o (by omega)).trans ((gU_o (by omega)).trans ((gU_o (by omega)).trans ((gU_o (by omega)).trans ((gU_o (by omega)).trans ((gU_o (by omega)).trans ((gU_o (by omega)).trans ((gU_o (by omega)).trans ((gU_o (by omega)).trans ((gU_o (by omega)).trans ((gU_o (by omega)).trans ((gU_o (by omega)).trans ((gU_o (by omega)).trans ((gU_o (by omega)).trans ((gU_o (by omega)).trans ((gU_o (by omega)).trans ((gU_o (by omega)).trans ((gU_o (by omega)).trans ((gU_o (by omega)).trans ((gU_o (by omega)).trans (gU_o (by omega))))))))))))))))))))))))))))), fun x hx => (gU_o (by omega)).trans ((gU_o (by omega)).trans ((gU_o (by omega)).trans ((gU_o (by omega)).trans ((gU_o (by omega)).trans ((gU_o (by omega)).trans ((gU_o (by omega)).trans ((gU_o (by omega)).trans ((gU_o (by omega)).trans ((gU_o (by omega)).trans ((gU_o (by omega)).trans ((gU_o (by omega)).trans ((gU_o (by omega)).trans ((gU_o (by omega)).trans ((gU_o (by omega)).trans ((gU_o (by omega)).trans ((gU_o (by omega)).trans ((gU_o (by omega)).trans ((gU_o (by omega)).trans ((gU_o (by omega)).trans ((gU_o (by omega)).trans ((gU_o (by omega)).trans ((gU_o (by omega)).trans ((gU_o (by omega)).trans ((gU_o (by omega)).trans ((gU_o (by omega)).trans ((gU_o (by omega)).trans ((gU_o (by omega)).trans (gU_o (by omega))))))))))))))))))))))))))))), fun x hx => rfl⟩
                                          · refine w_lload rfl rfl ?_
                                            refine w_aload rfl rfl ?_
                                            refine w_getLv (x := 263984) rfl rfl (gU_e) ?_
                                            refine w_lmulv (z := 791952) rfl (by decide) ?_
                                            refine w_pushL rfl ?_
                                            refine w_lload rfl rfl ?_
                                            refine w_lsubv (z := 9) rfl (by decide) ?_
                                            refine w_lload rfl rfl ?_
                                            refine w_lmulv (z := 1835856) rfl (by decide) ?_
                                            refine w_laddv (z := 2627808) rfl (by decide) ?_
                                            refine w_pushL rfl ?_
                                            refine w_ldivv (z := 218984) rfl (by decide) (by decide) ?_
                                            refine w_lstore rfl rfl ?_
                                            refine w_aload rfl rfl ?_
                                            refine w_pushL rfl ?_
                                            refine w_iload rfl rfl ?_
                                            refine w_i2lv (z := 20) rfl (by decide) ?_
                                            refine w_lmulv (z := 20000) rfl (by decide) ?_
                                            refine w_aload rfl rfl ?_
                                            refine w_getLv (x := 263984) rfl rfl (gU_e) ?_
                                            refine w_laddv (z := 283984) rfl (by decide) ?_
                                            refine w_lload rfl rfl ?_
                                            refine w_lload rfl rfl ?_
                                            refine w_laddv (z := 278984) rfl (by decide) ?_
                                            refine w_lload rfl rfl ?_
                                            refine w_lload rfl rfl ?_
                                            refine w_laddv (z := 308984) rfl (by decide) ?_
                                            refine w_callVi (As := [_, _, _]) (le := [some _, some _, none, some _, none, some _, none]) rfl rfl rfl (by decide) (Nat.le_of_ble_eq_true rfl) rfl ?_
                                            refine w_aload rfl rfl ?_
                                            refine w_lload rfl rfl ?_
                                            refine w_putL rfl rfl ?_
                                            refine w_aload rfl rfl ?_
                                            refine w_pushI rfl ?_
                                            refine w_putI rfl rfl ?_
                                            refine w_lload rfl rfl ?_
                                            refine w_aload rfl rfl ?_
                                            refine w_getLv (x := 283984) rfl rfl (gU_e) ?_
                                            refine w_lcmpv (z := (-1)) rfl (by decide) ?_
                                            refine w_if_ge rfl (fun h => absurd h (by decide)) (fun _ => ?_)
                                            refine w_aload rfl rfl ?_
                                            refine w_lload rfl rfl ?_
                                            refine w_putL rfl rfl ?_
                                            refine w_aload rfl rfl ?_
                                            refine w_pushI rfl ?_
                                            refine w_putI rfl rfl ?_
                                            refine w_lload rfl rfl ?_
                                            refine w_aload rfl rfl ?_
                                            refine w_getLv (x := 278984) rfl rfl (gU_e) ?_
                                            refine w_lcmpv (z := 1) rfl (by decide) ?_
                                            refine w_if_ge rfl (fun _ => ?_) (fun h => absurd (by decide) h)
                                            refine w_vret rfl rfl ?_
                                            show gW _ _ _ _ _ _ _ _ _ _
                                            refine w_iincv (z := 17) rfl rfl (by decide) rfl ?_
                                            refine w_goto rfl ?_
                                            refine w_iload rfl rfl ?_
                                            refine w_iload rfl rfl ?_
                                            refine w_icmp_geZ (a := 17) rfl (by decide) rfl (fun h23 => ?_) (fun h23 => ?_)
                                            · obtain rfl : a = 17 := i_is (show a.toInt = 17 by omega) (by decide)
                                              refine w_vret rfl rfl ?_
                                              show gW _ _ _ _ _ _ _ _ _ _
                                              refine w_iload rfl rfl ?_
                                              refine w_topv (z := 1) (by decide) ?_
                                              refine w_if_ne rfl (fun _ => ?_) (fun h => absurd h (by decide))
                                              refine w_aload rfl rfl ?_
                                              refine w_getR (r := 22) rfl rfl (hR _ fmR_0_5) ?_
                                              refine w_getIv (x := 1) rfl rfl (gU_e) ?_
                                              refine w_iret rfl (Or.inl rfl) ?_
                                              exact ⟨congrArg (fun v => some (Value.int v)) (show (1 : Int32) = f1_buy (17) (1) by have e0 : (17 : Int32).toInt = 17 := rfl; have e1 : (1 : Int32).toInt = 1 := rfl; exact ite_eq_of (fun _ => ite_eq_of (fun hc => absurd hc (by omega)) (fun _ => ite_eq_of (fun hc => absurd hc (by omega)) (fun _ => ite_eq_of (fun hc => absurd hc (by omega)) (fun _ => ite_eq_of (fun _ => ite_eq_of (fun _ => ite_eq_of (fun hc => absurd hc (by omega)) (fun _ => rfl)) (fun hc => absurd (by omega) hc)) (fun hc => absurd (by omega) hc))))) (fun hc => absurd (by omega) hc)), rfl, fun x hx => (gU_o (by omega)).trans ((gU_o (by omega)).trans ((gU_o (by omega)).trans ((gU_o (by omega)).trans ((gU_o (by omega)).trans ((gU_o (by omega)).trans ((gU_o (by omega)).trans ((gU_o (by omega)).trans ((gU_o (by omega)).trans ((gU_o (by omega)).trans ((gU_o (by omega)).trans ((gU_o (by omega)).trans ((gU_o (by omega)).trans ((gU_o (by omega)).trans ((gU_o (by omega)).trans ((gU_o (by omega)).trans ((gU_o (by omega)).trans ((gU_o (by omega)).trans ((gU_o (by omega)).trans ((gU_o (by omega)).trans ((gU_o (by omega)).trans ((gU_o (by omega)).trans ((gU_o (by omega)).trans ((gU_o (by omega)).trans ((gU_o (by omega)).trans ((gU_o (by omega)).trans ((gU_o (by omega)).trans ((gU_o (by omega)).trans ((gU_o (by omega)).trans ((gU_o (by omega)).trans (gU_o (by omega))))))))))))))))))))))))))))))), fun x hx => (gU_o (by omega)).trans ((gU_o (by omega)).trans ((gU_o (by omega)).trans ((gU_o (by omega)).trans ((gU_o (by omega)).trans ((gU_o (by omega)).trans ((gU_o (by omega)).trans ((gU_o (by omega)).trans ((gU_o (by omega)).trans ((gU_o (by omega)).trans ((gU_o (by omega)).trans ((gU_o (by omega)).trans ((gU_o (by omega)).trans ((gU_o (by omega)).trans ((gU_o (by omega)).trans ((gU_o (by omega)).trans ((gU_o (by omega)).trans ((gU_o (by omega)).trans ((gU_o (by omega)).trans ((gU_o (by omega)).trans ((gU_o (by omega)).trans ((gU_o (by omega)).trans ((gU_o (by omega)).trans ((gU_o (by omega)).trans ((gU_o (by omega)).trans ((gU_o (by omega)).trans ((gU_o (by omega)).trans ((gU_o (by omega)).trans ((gU_o (by omega)).trans ((gU_o (by omega)).trans (gU_o (by omega))))))))))))))))))))))))))))))), fun x hx => rfl⟩
                                            · refine w_lload rfl rfl ?_
                                              refine w_aload rfl rfl ?_
                                              refine w_getLv (x := 278984) rfl rfl (gU_e) ?_
                                              refine w_lmulv (z := 836952) rfl (by decide) ?_
                                              refine w_pushL rfl ?_
                                              refine w_lload rfl rfl ?_
                                              refine w_lsubv (z := 9) rfl (by decide) ?_
                                              refine w_lload rfl rfl ?_
                                              refine w_lmulv (z := 1970856) rfl (by decide) ?_
                                              refine w_laddv (z := 2807808) rfl (by decide) ?_
                                              refine w_pushL rfl ?_
                                              refine w_ldivv (z := 233984) rfl (by decide) (by decide) ?_
                                              refine w_lstore rfl rfl ?_
                                              refine w_aload rfl rfl ?_
                                              refine w_pushL rfl ?_
                                              refine w_iload rfl rfl ?_
                                              refine w_i2lv (z := 20) rfl (by decide) ?_
                                              refine w_lmulv (z := 20000) rfl (by decide) ?_
                                              refine w_aload rfl rfl ?_
                                              refine w_getLv (x := 278984) rfl rfl (gU_e) ?_
                                              refine w_laddv (z := 298984) rfl (by decide) ?_
                                              refine w_lload rfl rfl ?_
                                              refine w_lload rfl rfl ?_
                                              refine w_laddv (z := 293984) rfl (by decide) ?_
                                              refine w_lload rfl rfl ?_
                                              refine w_lload rfl rfl ?_
                                              refine w_laddv (z := 323984) rfl (by decide) ?_
                                              refine w_callVi (As := [_, _, _]) (le := [some _, some _, none, some _, none, some _, none]) rfl rfl rfl (by decide) (Nat.le_of_ble_eq_true rfl) rfl ?_
                                              refine w_aload rfl rfl ?_
                                              refine w_lload rfl rfl ?_
                                              refine w_putL rfl rfl ?_
                                              refine w_aload rfl rfl ?_
                                              refine w_pushI rfl ?_
                                              refine w_putI rfl rfl ?_
                                              refine w_lload rfl rfl ?_
                                              refine w_aload rfl rfl ?_
                                              refine w_getLv (x := 298984) rfl rfl (gU_e) ?_
                                              refine w_lcmpv (z := (-1)) rfl (by decide) ?_
                                              refine w_if_ge rfl (fun h => absurd h (by decide)) (fun _ => ?_)
                                              refine w_aload rfl rfl ?_
                                              refine w_lload rfl rfl ?_
                                              refine w_putL rfl rfl ?_
                                              refine w_aload rfl rfl ?_
                                              refine w_pushI rfl ?_
                                              refine w_putI rfl rfl ?_
                                              refine w_lload rfl rfl ?_
                                              refine w_aload rfl rfl ?_
                                              refine w_getLv (x := 293984) rfl rfl (gU_e) ?_
                                              refine w_lcmpv (z := 1) rfl (by decide) ?_
                                              refine w_if_ge rfl (fun _ => ?_) (fun h => absurd (by decide) h)
                                              refine w_vret rfl rfl ?_
                                              show gW _ _ _ _ _ _ _ _ _ _
                                              refine w_iincv (z := 18) rfl rfl (by decide) rfl ?_
                                              refine w_goto rfl ?_
                                              refine w_iload rfl rfl ?_
                                              refine w_iload rfl rfl ?_
                                              refine w_icmp_geZ (a := 18) rfl (by decide) rfl (fun h24 => ?_) (fun h24 => ?_)
                                              · obtain rfl : a = 18 := i_is (show a.toInt = 18 by omega) (by decide)
                                                refine w_vret rfl rfl ?_
                                                show gW _ _ _ _ _ _ _ _ _ _
                                                refine w_iload rfl rfl ?_
                                                refine w_topv (z := 1) (by decide) ?_
                                                refine w_if_ne rfl (fun _ => ?_) (fun h => absurd h (by decide))
                                                refine w_aload rfl rfl ?_
                                                refine w_getR (r := 22) rfl rfl (hR _ fmR_0_5) ?_
                                                refine w_getIv (x := 1) rfl rfl (gU_e) ?_
                                                refine w_iret rfl (Or.inl rfl) ?_
                                                exact ⟨congrArg (fun v => some (Value.int v)) (show (1 : Int32) = f1_buy (18) (1) by have e0 : (18 : Int32).toInt = 18 := rfl; have e1 : (1 : Int32).toInt = 1 := rfl; exact ite_eq_of (fun _ => ite_eq_of (fun hc => absurd hc (by omega)) (fun _ => ite_eq_of (fun hc => absurd hc (by omega)) (fun _ => ite_eq_of (fun hc => absurd hc (by omega)) (fun _ => ite_eq_of (fun _ => ite_eq_of (fun hc => absurd hc (by omega)) (fun _ => rfl)) (fun hc => absurd (by omega) hc))))) (fun hc => absurd (by omega) hc)), rfl, fun x hx => (gU_o (by omega)).trans ((gU_o (by omega)).trans ((gU_o (by omega)).trans ((gU_o (by omega)).trans ((gU_o (by omega)).trans ((gU_o (by omega)).trans ((gU_o (by omega)).trans ((gU_o (by omega)).trans ((gU_o (by omega)).trans ((gU_o (by omega)).trans ((gU_o (by omega)).trans ((gU_o (by omega)).trans ((gU_o (by omega)).trans ((gU_o (by omega)).trans ((gU_o (by omega)).trans ((gU_o (by omega)).trans ((gU_o (by omega)).trans ((gU_o (by omega)).trans ((gU_o (by omega)).trans ((gU_o (by omega)).trans ((gU_o (by omega)).trans ((gU_o (by omega)).trans ((gU_o (by omega)).trans ((gU_o (by omega)).trans ((gU_o (by omega)).trans ((gU_o (by omega)).trans ((gU_o (by omega)).trans ((gU_o (by omega)).trans ((gU_o (by omega)).trans ((gU_o (by omega)).trans ((gU_o (by omega)).trans ((gU_o (by omega)).trans (gU_o (by omega))))))))))))))))))))))))))))))))), fun x hx => (gU_o (by omega)).trans ((gU_o (by omega)).trans ((gU_o (by omega)).trans ((gU_o (by omega)).trans ((gU_o (by omega)).trans ((gU_o (by omega)).trans ((gU_o (by omega)).trans ((gU_o (by omega)).trans ((gU_o (by omega)).trans ((gU_o (by omega)).trans ((gU_o (by omega)).trans ((gU_o (by omega)).trans ((gU_o (by omega)).trans ((gU_o (by omega)).trans ((gU_o (by omega)).trans ((gU_o (by omega)).trans ((gU_o (by omega)).trans ((gU_o (by omega)).trans ((gU_o (by omega)).trans ((gU_o (by omega)).trans ((gU_o (by omega)).trans ((gU_o (by omega)).trans ((gU_o (by omega)).trans ((gU_o (by omega)).trans ((gU_o (by omega)).trans ((gU_o (by omega)).trans ((gU_o (by omega)).trans ((gU_o (by omega)).trans ((gU_o (by omega)).trans ((gU_o (by omega)).trans ((gU_o (by omega)).trans ((gU_o (by omega)).trans (gU_o (by omega))))))))))))))))))))))))))))))))), fun x hx => rfl⟩
                                              · refine w_lload rfl rfl ?_
                                                refine w_aload rfl rfl ?_
                                                refine w_getLv (x := 293984) rfl rfl (gU_e) ?_
                                                refine w_lmulv (z := 881952) rfl (by decide) ?_
                                                refine w_pushL rfl ?_
                                                refine w_lload rfl rfl ?_
                                                refine w_lsubv (z := 9) rfl (by decide) ?_
                                                refine w_lload rfl rfl ?_
                                                refine w_lmulv (z := 2105856) rfl (by decide) ?_
                                                refine w_laddv (z := 2987808) rfl (by decide) ?_
                                                refine w_pushL rfl ?_
                                                refine w_ldivv (z := 248984) rfl (by decide) (by decide) ?_
                                                refine w_lstore rfl rfl ?_
                                                refine w_aload rfl rfl ?_
                                                refine w_pushL rfl ?_
                                                refine w_iload rfl rfl ?_
                                                refine w_i2lv (z := 20) rfl (by decide) ?_
                                                refine w_lmulv (z := 20000) rfl (by decide) ?_
                                                refine w_aload rfl rfl ?_
                                                refine w_getLv (x := 293984) rfl rfl (gU_e) ?_
                                                refine w_laddv (z := 313984) rfl (by decide) ?_
                                                refine w_lload rfl rfl ?_
                                                refine w_lload rfl rfl ?_
                                                refine w_laddv (z := 308984) rfl (by decide) ?_
                                                refine w_lload rfl rfl ?_
                                                refine w_lload rfl rfl ?_
                                                refine w_laddv (z := 338984) rfl (by decide) ?_
                                                refine w_callVi (As := [_, _, _]) (le := [some _, some _, none, some _, none, some _, none]) rfl rfl rfl (by decide) (Nat.le_of_ble_eq_true rfl) rfl ?_
                                                refine w_aload rfl rfl ?_
                                                refine w_lload rfl rfl ?_
                                                refine w_putL rfl rfl ?_
                                                refine w_aload rfl rfl ?_
                                                refine w_pushI rfl ?_
                                                refine w_putI rfl rfl ?_
                                                refine w_lload rfl rfl ?_
                                                refine w_aload rfl rfl ?_
                                                refine w_getLv (x := 313984) rfl rfl (gU_e) ?_
                                                refine w_lcmpv (z := (-1)) rfl (by decide) ?_
                                                refine w_if_ge rfl (fun h => absurd h (by decide)) (fun _ => ?_)
                                                refine w_aload rfl rfl ?_
                                                refine w_lload rfl rfl ?_
                                                refine w_putL rfl rfl ?_
                                                refine w_aload rfl rfl ?_
                                                refine w_pushI rfl ?_
                                                refine w_putI rfl rfl ?_
                                                refine w_lload rfl rfl ?_
                                                refine w_aload rfl rfl ?_
                                                refine w_getLv (x := 308984) rfl rfl (gU_e) ?_
                                                refine w_lcmpv (z := 1) rfl (by decide) ?_
                                                refine w_if_ge rfl (fun _ => ?_) (fun h => absurd (by decide) h)
                                                refine w_vret rfl rfl ?_
                                                show gW _ _ _ _ _ _ _ _ _ _
                                                refine w_iincv (z := 19) rfl rfl (by decide) rfl ?_
                                                refine w_goto rfl ?_
                                                refine w_iload rfl rfl ?_
                                                refine w_iload rfl rfl ?_
                                                refine w_icmp_geZ (a := 19) rfl (by decide) rfl (fun h25 => ?_) (fun h25 => ?_)
                                                · obtain rfl : a = 19 := i_is (show a.toInt = 19 by omega) (by decide)
                                                  refine w_vret rfl rfl ?_
                                                  show gW _ _ _ _ _ _ _ _ _ _
                                                  refine w_iload rfl rfl ?_
                                                  refine w_topv (z := 1) (by decide) ?_
                                                  refine w_if_ne rfl (fun _ => ?_) (fun h => absurd h (by decide))
                                                  refine w_aload rfl rfl ?_
                                                  refine w_getR (r := 22) rfl rfl (hR _ fmR_0_5) ?_
                                                  refine w_getIv (x := 1) rfl rfl (gU_e) ?_
                                                  refine w_iret rfl (Or.inl rfl) ?_
                                                  exact ⟨congrArg (fun v => some (Value.int v)) (show (1 : Int32) = f1_buy (19) (1) by have e0 : (19 : Int32).toInt = 19 := rfl; have e1 : (1 : Int32).toInt = 1 := rfl; exact ite_eq_of (fun _ => ite_eq_of (fun hc => absurd hc (by omega)) (fun _ => ite_eq_of (fun hc => absurd hc (by omega)) (fun _ => ite_eq_of (fun hc => absurd hc (by omega)) (fun _ => ite_eq_of (fun hc => absurd hc (by omega)) (fun _ => ite_eq_of (fun _ => rfl) (fun hc => absurd (by omega) hc)))))) (fun hc => absurd (by omega) hc)), rfl, fun x hx => (gU_o (by omega)).trans ((gU_o (by omega)).trans ((gU_o (by omega)).trans ((gU_o (by omega)).trans ((gU_o (by omega)).trans ((gU_o (by omega)).trans ((gU_o (by omega)).trans ((gU_o (by omega)).trans ((gU_o (by omega)).trans ((gU_o (by omega)).trans ((gU_o (by omega)).trans ((gU_o (by omega)).trans ((gU_o (by omega)).trans ((gU_o (by omega)).trans ((gU_o (by omega)).trans ((gU_o (by omega)).trans ((gU_o (by omega)).trans ((gU_o (by omega)).trans ((gU_o (by omega)).trans ((gU_o (by omega)).trans ((gU_o (by omega)).trans ((gU_o (by omega)).trans ((gU_o (by omega)).trans ((gU_o (by omega)).trans ((gU_o (by omega)).trans ((gU_o (by omega)).trans ((gU_o (by omega)).trans ((gU_o (by omega)).trans ((gU_o (by omega)).trans ((gU_o (by omega)).trans ((gU_o (by omega)).trans ((gU_o (by omega)).trans ((gU_o (by omega)).trans ((gU_o (by omega)).trans (gU_o (by omega))))))))))))))))))))))))))))))))))), fun x hx => (gU_o (by omega)).trans ((gU_o (by omega)).trans ((gU_o (by omega)).trans ((gU_o (by omega)).trans ((gU_o (by omega)).trans ((gU_o (by omega)).trans ((gU_o (by omega)).trans ((gU_o (by omega)).trans ((gU_o (by omega)).trans ((gU_o (by omega)).trans ((gU_o (by omega)).trans ((gU_o (by omega)).trans ((gU_o (by omega)).trans ((gU_o (by omega)).trans ((gU_o (by omega)).trans ((gU_o (by omega)).trans ((gU_o (by omega)).trans ((gU_o (by omega)).trans ((gU_o (by omega)).trans ((gU_o (by omega)).trans ((gU_o (by omega)).trans ((gU_o (by omega)).trans ((gU_o (by omega)).trans ((gU_o (by omega)).trans ((gU_o (by omega)).trans ((gU_o (by omega)).trans ((gU_o (by omega)).trans ((gU_o (by omega)).trans ((gU_o (by omega)).trans ((gU_o (by omega)).trans ((gU_o (by omega)).trans ((gU_o (by omega)).trans ((gU_o (by omega)).trans ((gU_o (by omega)).trans (gU_o (by omega))))))))))))))))))))))))))))))))))), fun x hx => rfl⟩
                                                · obtain rfl : a = 20 := i_is (show a.toInt = 20 by omega) (by decide)
                                                  refine w_lload rfl rfl ?_
                                                  refine w_aload rfl rfl ?_
                                                  refine w_getLv (x := 308984) rfl rfl (gU_e) ?_
                                                  refine w_lmulv (z := 926952) rfl (by decide) ?_
                                                  refine w_pushL rfl ?_
                                                  refine w_lload rfl rfl ?_
                                                  refine w_lsubv (z := 9) rfl (by decide) ?_
                                                  refine w_lload rfl rfl ?_
                                                  refine w_lmulv (z := 2240856) rfl (by decide) ?_
                                                  refine w_laddv (z := 3167808) rfl (by decide) ?_
                                                  refine w_pushL rfl ?_
                                                  refine w_ldivv (z := 263984) rfl (by decide) (by decide) ?_
                                                  refine w_lstore rfl rfl ?_
                                                  refine w_aload rfl rfl ?_
                                                  refine w_pushL rfl ?_
                                                  refine w_iload rfl rfl ?_
                                                  refine w_i2lv (z := 20) rfl (by decide) ?_
                                                  refine w_lmulv (z := 20000) rfl (by decide) ?_
                                                  refine w_aload rfl rfl ?_
                                                  refine w_getLv (x := 308984) rfl rfl (gU_e) ?_
                                                  refine w_laddv (z := 328984) rfl (by decide) ?_
                                                  refine w_lload rfl rfl ?_
                                                  refine w_lload rfl rfl ?_
                                                  refine w_laddv (z := 323984) rfl (by decide) ?_
                                                  refine w_lload rfl rfl ?_
                                                  refine w_lload rfl rfl ?_
                                                  refine w_laddv (z := 353984) rfl (by decide) ?_
                                                  refine w_callVi (As := [_, _, _]) (le := [some _, some _, none, some _, none, some _, none]) rfl rfl rfl (by decide) (Nat.le_of_ble_eq_true rfl) rfl ?_
                                                  refine w_aload rfl rfl ?_
                                                  refine w_lload rfl rfl ?_
                                                  refine w_putL rfl rfl ?_
                                                  refine w_aload rfl rfl ?_
                                                  refine w_pushI rfl ?_
                                                  refine w_putI rfl rfl ?_
                                                  refine w_lload rfl rfl ?_
                                                  refine w_aload rfl rfl ?_
                                                  refine w_getLv (x := 328984) rfl rfl (gU_e) ?_
                                                  refine w_lcmpv (z := (-1)) rfl (by decide) ?_
                                                  refine w_if_ge rfl (fun h => absurd h (by decide)) (fun _ => ?_)
                                                  refine w_aload rfl rfl ?_
                                                  refine w_lload rfl rfl ?_
                                                  refine w_putL rfl rfl ?_
                                                  refine w_aload rfl rfl ?_
                                                  refine w_pushI rfl ?_
                                                  refine w_putI rfl rfl ?_
                                                  refine w_lload rfl rfl ?_
                                                  refine w_aload rfl rfl ?_
                                                  refine w_getLv (x := 323984) rfl rfl (gU_e) ?_
                                                  refine w_lcmpv (z := 1) rfl (by decide) ?_
                                                  refine w_if_ge rfl (fun _ => ?_) (fun h => absurd (by decide) h)
                                                  refine w_vret rfl rfl ?_
                                                  show gW _ _ _ _ _ _ _ _ _ _
                                                  refine w_iincv (z := 20) rfl rfl (by decide) rfl ?_
                                                  refine w_goto rfl ?_
                                                  refine w_iload rfl rfl ?_
                                                  refine w_iload rfl rfl ?_
                                                  refine w_topv (z := 20) (by decide) ?_
                                                  refine w_icmp_ge rfl (fun _ => ?_) (fun h => absurd (by decide) h)
                                                  refine w_vret rfl rfl ?_
                                                  show gW _ _ _ _ _ _ _ _ _ _
                                                  refine w_iload rfl rfl ?_
                                                  refine w_topv (z := 1) (by decide) ?_
                                                  refine w_if_ne rfl (fun _ => ?_) (fun h => absurd h (by decide))
                                                  refine w_aload rfl rfl ?_
                                                  refine w_getR (r := 22) rfl rfl (hR _ fmR_0_5) ?_
                                                  refine w_getIv (x := 1) rfl rfl (gU_e) ?_
                                                  refine w_iret rfl (Or.inl rfl) ?_
                                                  exact ⟨congrArg (fun v => some (Value.int v)) (show (1 : Int32) = f1_buy (20) (1) by have e0 : (20 : Int32).toInt = 20 := rfl; have e1 : (1 : Int32).toInt = 1 := rfl; exact ite_eq_of (fun _ => ite_eq_of (fun hc => absurd hc (by omega)) (fun _ => ite_eq_of (fun hc => absurd hc (by omega)) (fun _ => ite_eq_of (fun hc => absurd hc (by omega)) (fun _ => ite_eq_of (fun hc => absurd hc (by omega)) (fun _ => ite_eq_of (fun hc => absurd hc (by omega)) (fun _ => rfl)))))) (fun hc => absurd (by omega) hc)), rfl, fun x hx => (gU_o (by omega)).trans ((gU_o (by omega)).trans ((gU_o (by omega)).trans ((gU_o (by omega)).trans ((gU_o (by omega)).trans ((gU_o (by omega)).trans ((gU_o (by omega)).trans ((gU_o (by omega)).trans ((gU_o (by omega)).trans ((gU_o (by omega)).trans ((gU_o (by omega)).trans ((gU_o (by omega)).trans ((gU_o (by omega)).trans ((gU_o (by omega)).trans ((gU_o (by omega)).trans ((gU_o (by omega)).trans ((gU_o (by omega)).trans ((gU_o (by omega)).trans ((gU_o (by omega)).trans ((gU_o (by omega)).trans ((gU_o (by omega)).trans ((gU_o (by omega)).trans ((gU_o (by omega)).trans ((gU_o (by omega)).trans ((gU_o (by omega)).trans ((gU_o (by omega)).trans ((gU_o (by omega)).trans ((gU_o (by omega)).trans ((gU_o (by omega)).trans ((gU_o (by omega)).trans ((gU_o (by omega)).trans ((gU_o (by omega)).trans ((gU_o (by omega)).trans ((gU_o (by omega)).trans ((gU_o (by omega)).trans ((gU_o (by omega)).trans (gU_o (by omega))))))))))))))))))))))))))))))))))))), fun x hx => (gU_o (by omega)).trans ((gU_o (by omega)).trans ((gU_o (by omega)).trans ((gU_o (by omega)).trans ((gU_o (by omega)).trans ((gU_o (by omega)).trans ((gU_o (by omega)).trans ((gU_o (by omega)).trans ((gU_o (by omega)).trans ((gU_o (by omega)).trans ((gU_o (by omega)).trans ((gU_o (by omega)).trans ((gU_o (by omega)).trans ((gU_o (by omega)).trans ((gU_o (by omega)).trans ((gU_o (by omega)).trans ((gU_o (by omega)).trans ((gU_o (by omega)).trans ((gU_o (by omega)).trans ((gU_o (by omega)).trans ((gU_o (by omega)).trans ((gU_o (by omega)).trans ((gU_o (by omega)).trans ((gU_o (by omega)).trans ((gU_o (by omega)).trans ((gU_o (by omega)).trans ((gU_o (by omega)).trans ((gU_o (by omega)).trans ((gU_o (by omega)).trans ((gU_o (by omega)).trans ((gU_o (by omega)).trans ((gU_o (by omega)).trans ((gU_o (by omega)).trans ((gU_o (by omega)).trans ((gU_o (by omega)).trans ((gU_o (by omega)).trans (gU_o (by omega))))))))))))))))))))))))))))))))))))), fun x hx => rfl⟩
