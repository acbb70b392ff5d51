set_option maxHeartbeats 40000000 in
set_option maxRecDepth 100000 in
theorem a1_dead {X : Nat × (Nat → Int32)} {d : Nat} {I : Nat → Nat → Int32} {L : Nat → Nat → Int64} {R : Nat → Nat → Option Nat} (hI : ∀ q ∈ gFlI, I q.1 q.2.1 = q.2.2) (hL : ∀ q ∈ gFlL, L q.1 q.2.1 = q.2.2) (hR : ∀ q ∈ gFlR, R q.1 q.2.1 = some q.2.2) (a : Int32) : gW X (d + 12) 117 0 0 0 (gEn 117 [.ref 0, .int a]) [] (gK 87, I, L, R) (fun r σ => r = some (.int (f1_dead a)) ∧ gFr σ I L R) := by
  show gW _ _ _ _ _ _ [some (.ref 0), some (.int a), none, none] _ _ _
  refine w_iload rfl rfl ?_
  refine w_callSi (As := [_]) (le := [some _]) rfl rfl (Nat.le_of_ble_eq_true rfl) (Nat.le_of_ble_eq_true rfl) rfl ?_
  refine w_iload rfl rfl ?_
  refine w_if_ltZ rfl rfl (fun h1 => ?_) (fun h1 => ?_)
  · refine w_pushI rfl ?_
    refine w_iret rfl (Or.inr ⟨rfl, by decide⟩) ?_
    show gW _ _ _ _ _ _ _ _ _ _
    refine w_if_ne rfl (fun h => absurd (by decide) h) (fun _ => ?_)
    refine w_pushI rfl ?_
    refine w_iret rfl (Or.inl rfl) ?_
    exact ⟨congrArg (fun v => some (Value.int v)) (show ((-1) : Int32) = f1_dead a by exact ite_eq_of (fun hc => absurd hc (by omega)) (fun _ => rfl)), rfl, fun x hx => rfl, fun x hx => rfl, fun x hx => rfl⟩
  · refine w_iload rfl rfl ?_
    refine w_pushI rfl ?_
    refine w_icmp_geZ (b := 6) rfl rfl (by decide) (fun h2 => ?_) (fun h2 => ?_)
    · refine w_pushI rfl ?_
      refine w_iret rfl (Or.inr ⟨rfl, by decide⟩) ?_
      show gW _ _ _ _ _ _ _ _ _ _
      refine w_if_ne rfl (fun h => absurd (by decide) h) (fun _ => ?_)
      refine w_pushI rfl ?_
      refine w_iret rfl (Or.inl rfl) ?_
      exact ⟨congrArg (fun v => some (Value.int v)) (show ((-1) : Int32) = f1_dead a by exact ite_eq_of (fun hc => absurd hc (by omega)) (fun _ => rfl)), rfl, fun x hx => rfl, fun x hx => rfl, fun x hx => rfl⟩
    · refine w_pushI rfl ?_
      refine w_goto rfl ?_
      refine w_iret rfl (Or.inr ⟨rfl, by decide⟩) ?_
      show gW _ _ _ _ _ _ _ _ _ _
      refine w_if_ne rfl (fun _ => ?_) (fun h => absurd h (by decide))
      refine w_aload rfl rfl ?_
      refine w_getR (r := 10) rfl rfl (hR _ fmR_0_2) ?_
      refine w_aload rfl rfl ?_
      refine w_getR (r := 37) rfl rfl (hR _ fmR_0_11) ?_
      refine w_iload rfl rfl ?_
      rcases (show a.toInt = 0 ∨ a.toInt = 1 ∨ a.toInt = 2 ∨ a.toInt = 3 ∨ a.toInt = 4 ∨ a.toInt = 5 by omega) with hs3 | hs3 | hs3 | hs3 | hs3 | hs3
      · obtain rfl : a = 0 := i_is hs3 (by decide)
        refine w_aaldv (j := 0) (r := 38) rfl rfl (by decide) (by unfold vp_in; decide) (hR _ fmR_37_0) ?_
        refine w_callVi (As := [_]) (le := [some _, some _, none, none, none]) rfl rfl rfl (Nat.le_of_ble_eq_true rfl) (Nat.le_of_ble_eq_true rfl) rfl ?_
        refine w_aload rfl rfl ?_
        refine w_callVi (As := []) (le := [some _]) rfl rfl rfl (Nat.le_of_ble_eq_true rfl) (Nat.le_of_ble_eq_true rfl) rfl ?_
        refine w_aload rfl rfl ?_
        refine w_getIv (x := 0) rfl rfl (hI _ fmI_38_0) ?_
        refine w_if_ne rfl (fun h => absurd (by decide) h) (fun _ => ?_)
        refine w_pushI rfl ?_
        refine w_iret rfl (Or.inl rfl) ?_
        show gW _ _ _ _ _ _ _ _ _ _
        refine w_istore rfl rfl ?_
        refine w_iload rfl rfl ?_
        refine w_if_ge rfl (fun h => absurd h (by decide)) (fun _ => ?_)
        refine w_iload rfl rfl ?_
        refine w_iret rfl (Or.inl rfl) ?_
        show gW _ _ _ _ _ _ _ _ _ _
        refine w_istore rfl rfl ?_
        refine w_iload rfl rfl ?_
        refine w_if_ge rfl (fun h => absurd h (by decide)) (fun _ => ?_)
        refine w_iload rfl rfl ?_
        refine w_iret rfl (Or.inl rfl) ?_
        exact ⟨congrArg (fun v => some (Value.int v)) (show ((-11) : Int32) = f1_dead (0) by have e0 : (0 : Int32).toInt = 0 := rfl; exact ite_eq_of (fun _ => rfl) (fun hc => absurd (by omega) hc)), rfl, fun x hx => rfl, fun x hx => rfl, fun x hx => rfl⟩
      · obtain rfl : a = 1 := i_is hs3 (by decide)
        refine w_aaldv (j := 1) (r := 40) rfl rfl (by decide) (by unfold vp_in; decide) (hR _ fmR_37_1) ?_
        refine w_callVi (As := [_]) (le := [some _, some _, none, none, none]) rfl rfl rfl (Nat.le_of_ble_eq_true rfl) (Nat.le_of_ble_eq_true rfl) rfl ?_
        refine w_aload rfl rfl ?_
        refine w_callVi (As := []) (le := [some _]) rfl rfl rfl (Nat.le_of_ble_eq_true rfl) (Nat.le_of_ble_eq_true rfl) rfl ?_
        refine w_aload rfl rfl ?_
        refine w_getIv (x := 0) rfl rfl (hI _ fmI_40_0) ?_
        refine w_if_ne rfl (fun h => absurd (by decide) h) (fun _ => ?_)
        refine w_pushI rfl ?_
        refine w_iret rfl (Or.inl rfl) ?_
        show gW _ _ _ _ _ _ _ _ _ _
        refine w_istore rfl rfl ?_
        refine w_iload rfl rfl ?_
        refine w_if_ge rfl (fun h => absurd h (by decide)) (fun _ => ?_)
        refine w_iload rfl rfl ?_
        refine w_iret rfl (Or.inl rfl) ?_
        show gW _ _ _ _ _ _ _ _ _ _
        refine w_istore rfl rfl ?_
        refine w_iload rfl rfl ?_
        refine w_if_ge rfl (fun h => absurd h (by decide)) (fun _ => ?_)
        refine w_iload rfl rfl ?_
        refine w_iret rfl (Or.inl rfl) ?_
        exact ⟨congrArg (fun v => some (Value.int v)) (show ((-11) : Int32) = f1_dead (1) by have e0 : (1 : Int32).toInt = 1 := rfl; exact ite_eq_of (fun _ => rfl) (fun hc => absurd (by omega) hc)), rfl, fun x hx => rfl, fun x hx => rfl, fun x hx => rfl⟩
      · obtain rfl : a = 2 := i_is hs3 (by decide)
        refine w_aaldv (j := 2) (r := 42) rfl rfl (by decide) (by unfold vp_in; decide) (hR _ fmR_37_2) ?_
        refine w_callVi (As := [_]) (le := [some _, some _, none, none, none]) rfl rfl rfl (Nat.le_of_ble_eq_true rfl) (Nat.le_of_ble_eq_true rfl) rfl ?_
        refine w_aload rfl rfl ?_
        refine w_callVi (As := []) (le := [some _]) rfl rfl rfl (Nat.le_of_ble_eq_true rfl) (Nat.le_of_ble_eq_true rfl) rfl ?_
        refine w_aload rfl rfl ?_
        refine w_getIv (x := 0) rfl rfl (hI _ fmI_42_0) ?_
        refine w_if_ne rfl (fun h => absurd (by decide) h) (fun _ => ?_)
        refine w_pushI rfl ?_
        refine w_iret rfl (Or.inl rfl) ?_
        show gW _ _ _ _ _ _ _ _ _ _
        refine w_istore rfl rfl ?_
        refine w_iload rfl rfl ?_
        refine w_if_ge rfl (fun h => absurd h (by decide)) (fun _ => ?_)
        refine w_iload rfl rfl ?_
        refine w_iret rfl (Or.inl rfl) ?_
        show gW _ _ _ _ _ _ _ _ _ _
        refine w_istore rfl rfl ?_
        refine w_iload rfl rfl ?_
        refine w_if_ge rfl (fun h => absurd h (by decide)) (fun _ => ?_)
        refine w_iload rfl rfl ?_
        refine w_iret rfl (Or.inl rfl) ?_
        exact ⟨congrArg (fun v => some (Value.int v)) (show ((-11) : Int32) = f1_dead (2) by have e0 : (2 : Int32).toInt = 2 := rfl; exact ite_eq_of (fun _ => rfl) (fun hc => absurd (by omega) hc)), rfl, fun x hx => rfl, fun x hx => rfl, fun x hx => rfl⟩
      · obtain rfl : a = 3 := i_is hs3 (by decide)
        refine w_aaldv (j := 3) (r := 44) rfl rfl (by decide) (by unfold vp_in; decide) (hR _ fmR_37_3) ?_
        refine w_callVi (As := [_]) (le := [some _, some _, none, none, none]) rfl rfl rfl (Nat.le_of_ble_eq_true rfl) (Nat.le_of_ble_eq_true rfl) rfl ?_
        refine w_aload rfl rfl ?_
        refine w_callVi (As := []) (le := [some _]) rfl rfl rfl (Nat.le_of_ble_eq_true rfl) (Nat.le_of_ble_eq_true rfl) rfl ?_
        refine w_aload rfl rfl ?_
        refine w_getIv (x := 0) rfl rfl (hI _ fmI_44_0) ?_
        refine w_if_ne rfl (fun h => absurd (by decide) h) (fun _ => ?_)
        refine w_pushI rfl ?_
        refine w_iret rfl (Or.inl rfl) ?_
        show gW _ _ _ _ _ _ _ _ _ _
        refine w_istore rfl rfl ?_
        refine w_iload rfl rfl ?_
        refine w_if_ge rfl (fun h => absurd h (by decide)) (fun _ => ?_)
        refine w_iload rfl rfl ?_
        refine w_iret rfl (Or.inl rfl) ?_
        show gW _ _ _ _ _ _ _ _ _ _
        refine w_istore rfl rfl ?_
        refine w_iload rfl rfl ?_
        refine w_if_ge rfl (fun h => absurd h (by decide)) (fun _ => ?_)
        refine w_iload rfl rfl ?_
        refine w_iret rfl (Or.inl rfl) ?_
        exact ⟨congrArg (fun v => some (Value.int v)) (show ((-11) : Int32) = f1_dead (3) by have e0 : (3 : Int32).toInt = 3 := rfl; exact ite_eq_of (fun _ => rfl) (fun hc => absurd (by omega) hc)), rfl, fun x hx => rfl, fun x hx => rfl, fun x hx => rfl⟩
      · obtain rfl : a = 4 := i_is hs3 (by decide)
        refine w_aaldv (j := 4) (r := 46) rfl rfl (by decide) (by unfold vp_in; decide) (hR _ fmR_37_4) ?_
        refine w_callVi (As := [_]) (le := [some _, some _, none, none, none]) rfl rfl rfl (Nat.le_of_ble_eq_true rfl) (Nat.le_of_ble_eq_true rfl) rfl ?_
        refine w_aload rfl rfl ?_
        refine w_callVi (As := []) (le := [some _]) rfl rfl rfl (Nat.le_of_ble_eq_true rfl) (Nat.le_of_ble_eq_true rfl) rfl ?_
        refine w_aload rfl rfl ?_
        refine w_getIv (x := 0) rfl rfl (hI _ fmI_46_0) ?_
        refine w_if_ne rfl (fun h => absurd (by decide) h) (fun _ => ?_)
        refine w_pushI rfl ?_
        refine w_iret rfl (Or.inl rfl) ?_
        show gW _ _ _ _ _ _ _ _ _ _
        refine w_istore rfl rfl ?_
        refine w_iload rfl rfl ?_
        refine w_if_ge rfl (fun h => absurd h (by decide)) (fun _ => ?_)
        refine w_iload rfl rfl ?_
        refine w_iret rfl (Or.inl rfl) ?_
        show gW _ _ _ _ _ _ _ _ _ _
        refine w_istore rfl rfl ?_
        refine w_iload rfl rfl ?_
        refine w_if_ge rfl (fun h => absurd h (by decide)) (fun _ => ?_)
        refine w_iload rfl rfl ?_
        refine w_iret rfl (Or.inl rfl) ?_
        exact ⟨congrArg (fun v => some (Value.int v)) (show ((-11) : Int32) = f1_dead (4) by have e0 : (4 : Int32).toInt = 4 := rfl; exact ite_eq_of (fun _ => rfl) (fun hc => absurd (by omega) hc)), rfl, fun x hx => rfl, fun x hx => rfl, fun x hx => rfl⟩
      · obtain rfl : a = 5 := i_is hs3 (by decide)
        refine w_aaldv (j := 5) (r := 48) rfl rfl (by decide) (by unfold vp_in; decide) (hR _ fmR_37_5) ?_
        refine w_callVi (As := [_]) (le := [some _, some _, none, none, none]) rfl rfl rfl (Nat.le_of_ble_eq_true rfl) (Nat.le_of_ble_eq_true rfl) rfl ?_
        refine w_aload rfl rfl ?_
        refine w_callVi (As := []) (le := [some _]) rfl rfl rfl (Nat.le_of_ble_eq_true rfl) (Nat.le_of_ble_eq_true rfl) rfl ?_
        refine w_aload rfl rfl ?_
        refine w_getIv (x := 0) rfl rfl (hI _ fmI_48_0) ?_
        refine w_if_ne rfl (fun h => absurd (by decide) h) (fun _ => ?_)
        refine w_pushI rfl ?_
        refine w_iret rfl (Or.inl rfl) ?_
        show gW _ _ _ _ _ _ _ _ _ _
        refine w_istore rfl rfl ?_
        refine w_iload rfl rfl ?_
        refine w_if_ge rfl (fun h => absurd h (by decide)) (fun _ => ?_)
        refine w_iload rfl rfl ?_
        refine w_iret rfl (Or.inl rfl) ?_
        show gW _ _ _ _ _ _ _ _ _ _
        refine w_istore rfl rfl ?_
        refine w_iload rfl rfl ?_
        refine w_if_ge rfl (fun h => absurd h (by decide)) (fun _ => ?_)
        refine w_iload rfl rfl ?_
        refine w_iret rfl (Or.inl rfl) ?_
        exact ⟨congrArg (fun v => some (Value.int v)) (show ((-11) : Int32) = f1_dead (5) by have e0 : (5 : Int32).toInt = 5 := rfl; exact ite_eq_of (fun _ => rfl) (fun hc => absurd (by omega) hc)), rfl, fun x hx => rfl, fun x hx => rfl, fun x hx => rfl⟩
set_option maxHeartbeats 40000000 in
set_option maxRecDepth 100000 in
theorem a2_dead {X : Nat × (Nat → Int32)} {d : Nat} {I : Nat → Nat → Int32} {L : Nat → Nat → Int64} {R : Nat → Nat → Option Nat} (hI : ∀ q ∈ gFlI, 50 ≤ q.1 → I q.1 q.2.1 = q.2.2) (hL : ∀ q ∈ gFlL, 50 ≤ q.1 → L q.1 q.2.1 = q.2.2) (hR : ∀ q ∈ gFlR, 50 ≤ q.1 → R q.1 q.2.1 = some q.2.2) (a : Int32) : gW X (d + 12) 210 0 0 0 (gEn 210 [.ref 50, .int a]) [] (gK 87, I, L, R) (fun r _ => r = some (.int (f1_dead a))) := by
  show gW _ _ _ _ _ _ [some (.ref 50), some (.int a)] _ _ _
  refine w_iload rfl rfl ?_
  refine w_callSi (As := [_]) (le := [some _]) rfl rfl (Nat.le_of_ble_eq_true rfl) (Nat.le_of_ble_eq_true rfl) rfl ?_
  refine w_iload rfl rfl ?_
  refine w_pushI rfl ?_
  refine w_pushI rfl ?_
  refine w_callSi (As := [_, _, _]) (le := [some _, some _, some _]) rfl rfl (Nat.le_of_ble_eq_true rfl) (Nat.le_of_ble_eq_true rfl) rfl ?_
  refine w_iload rfl rfl ?_
  refine w_iload rfl rfl ?_
  refine w_icmp_ltZ (b := 0) rfl rfl (by decide) (fun h1 => ?_) (fun h1 => ?_)
  · refine w_pushI rfl ?_
    refine w_iret rfl (Or.inr ⟨rfl, by decide⟩) ?_
    show gW _ _ _ _ _ _ _ _ _ _
    refine w_iret rfl (Or.inr ⟨rfl, by decide⟩) ?_
    show gW _ _ _ _ _ _ _ _ _ _
    refine w_if_ne rfl (fun h => absurd (by decide) h) (fun _ => ?_)
    refine w_pushI rfl ?_
    refine w_iret rfl (Or.inl rfl) ?_
    exact congrArg (fun v => some (Value.int v)) (show ((-1) : Int32) = f1_dead a by exact ite_eq_of (fun hc => absurd hc (by omega)) (fun _ => rfl))
  · refine w_iload rfl rfl ?_
    refine w_iload rfl rfl ?_
    refine w_icmp_gtZ (b := 5) rfl rfl (by decide) (fun h2 => ?_) (fun h2 => ?_)
    · refine w_pushI rfl ?_
      refine w_iret rfl (Or.inr ⟨rfl, by decide⟩) ?_
      show gW _ _ _ _ _ _ _ _ _ _
      refine w_iret rfl (Or.inr ⟨rfl, by decide⟩) ?_
      show gW _ _ _ _ _ _ _ _ _ _
      refine w_if_ne rfl (fun h => absurd (by decide) h) (fun _ => ?_)
      refine w_pushI rfl ?_
      refine w_iret rfl (Or.inl rfl) ?_
      exact congrArg (fun v => some (Value.int v)) (show ((-1) : Int32) = f1_dead a by exact ite_eq_of (fun hc => absurd hc (by omega)) (fun _ => rfl))
    · refine w_pushI rfl ?_
      refine w_goto rfl ?_
      refine w_iret rfl (Or.inr ⟨rfl, by decide⟩) ?_
      show gW _ _ _ _ _ _ _ _ _ _
      refine w_iret rfl (Or.inr ⟨rfl, by decide⟩) ?_
      show gW _ _ _ _ _ _ _ _ _ _
      refine w_if_ne rfl (fun _ => ?_) (fun h => absurd h (by decide))
      refine w_aload rfl rfl ?_
      refine w_iload rfl rfl ?_
      refine w_callVi (As := [_]) (le := [some _, some _]) rfl rfl rfl (Nat.le_of_ble_eq_true rfl) (Nat.le_of_ble_eq_true rfl) rfl ?_
      refine w_aload rfl rfl ?_
      refine w_getR (r := 83) rfl rfl (hR _ fmR_50_58 (by decide)) ?_
      refine w_iload rfl rfl ?_
      rcases (show a.toInt = 0 ∨ a.toInt = 1 ∨ a.toInt = 2 ∨ a.toInt = 3 ∨ a.toInt = 4 ∨ a.toInt = 5 by omega) with hs3 | hs3 | hs3 | hs3 | hs3 | hs3
      · obtain rfl : a = 0 := i_is hs3 (by decide)
        refine w_ialdv (j := 0) (x := (-1)) rfl rfl (by decide) (by unfold vp_in; decide) (hI _ fmI_83_0 (by decide)) ?_
        refine w_pushI rfl ?_
        refine w_icmp_ne rfl (fun h => absurd (by decide) h) (fun _ => ?_)
        refine w_pushI rfl ?_
        refine w_goto rfl ?_
        refine w_iret rfl (Or.inl rfl) ?_
        show gW _ _ _ _ _ _ _ _ _ _
        refine w_if_ge rfl (fun h => absurd h (by decide)) (fun _ => ?_)
        refine w_aload rfl rfl ?_
        refine w_iload rfl rfl ?_
        refine w_topv (z := 0) (by decide) ?_
        refine w_callVi (As := [_]) (le := [some _, some _]) rfl rfl rfl (Nat.le_of_ble_eq_true rfl) (Nat.le_of_ble_eq_true rfl) rfl ?_
        refine w_aload rfl rfl ?_
        refine w_getR (r := 83) rfl rfl (hR _ fmR_50_58 (by decide)) ?_
        refine w_iload rfl rfl ?_
        refine w_ialdv (j := 0) (x := (-1)) rfl rfl (by decide) (by unfold vp_in; decide) (hI _ fmI_83_0 (by decide)) ?_
        refine w_pushI rfl ?_
        refine w_icmp_ne rfl (fun h => absurd (by decide) h) (fun _ => ?_)
        refine w_pushI rfl ?_
        refine w_goto rfl ?_
        refine w_iret rfl (Or.inl rfl) ?_
        show gW _ _ _ _ _ _ _ _ _ _
        refine w_iret rfl (Or.inl rfl) ?_
        exact congrArg (fun v => some (Value.int v)) (show ((-11) : Int32) = f1_dead (0) by have e0 : (0 : Int32).toInt = 0 := rfl; exact ite_eq_of (fun _ => rfl) (fun hc => absurd (by omega) hc))
      · obtain rfl : a = 1 := i_is hs3 (by decide)
        refine w_ialdv (j := 1) (x := (-1)) rfl rfl (by decide) (by unfold vp_in; decide) (hI _ fmI_83_1 (by decide)) ?_
        refine w_pushI rfl ?_
        refine w_icmp_ne rfl (fun h => absurd (by decide) h) (fun _ => ?_)
        refine w_pushI rfl ?_
        refine w_goto rfl ?_
        refine w_iret rfl (Or.inl rfl) ?_
        show gW _ _ _ _ _ _ _ _ _ _
        refine w_if_ge rfl (fun h => absurd h (by decide)) (fun _ => ?_)
        refine w_aload rfl rfl ?_
        refine w_iload rfl rfl ?_
        refine w_topv (z := 1) (by decide) ?_
        refine w_callVi (As := [_]) (le := [some _, some _]) rfl rfl rfl (Nat.le_of_ble_eq_true rfl) (Nat.le_of_ble_eq_true rfl) rfl ?_
        refine w_aload rfl rfl ?_
        refine w_getR (r := 83) rfl rfl (hR _ fmR_50_58 (by decide)) ?_
        refine w_iload rfl rfl ?_
        refine w_ialdv (j := 1) (x := (-1)) rfl rfl (by decide) (by unfold vp_in; decide) (hI _ fmI_83_1 (by decide)) ?_
        refine w_pushI rfl ?_
        refine w_icmp_ne rfl (fun h => absurd (by decide) h) (fun _ => ?_)
        refine w_pushI rfl ?_
        refine w_goto rfl ?_
        refine w_iret rfl (Or.inl rfl) ?_
        show gW _ _ _ _ _ _ _ _ _ _
        refine w_iret rfl (Or.inl rfl) ?_
        exact congrArg (fun v => some (Value.int v)) (show ((-11) : Int32) = f1_dead (1) by have e0 : (1 : Int32).toInt = 1 := rfl; exact ite_eq_of (fun _ => rfl) (fun hc => absurd (by omega) hc))
      · obtain rfl : a = 2 := i_is hs3 (by decide)
        refine w_ialdv (j := 2) (x := (-1)) rfl rfl (by decide) (by unfold vp_in; decide) (hI _ fmI_83_2 (by decide)) ?_
        refine w_pushI rfl ?_
        refine w_icmp_ne rfl (fun h => absurd (by decide) h) (fun _ => ?_)
        refine w_pushI rfl ?_
        refine w_goto rfl ?_
        refine w_iret rfl (Or.inl rfl) ?_
        show gW _ _ _ _ _ _ _ _ _ _
        refine w_if_ge rfl (fun h => absurd h (by decide)) (fun _ => ?_)
        refine w_aload rfl rfl ?_
        refine w_iload rfl rfl ?_
        refine w_topv (z := 2) (by decide) ?_
        refine w_callVi (As := [_]) (le := [some _, some _]) rfl rfl rfl (Nat.le_of_ble_eq_true rfl) (Nat.le_of_ble_eq_true rfl) rfl ?_
        refine w_aload rfl rfl ?_
        refine w_getR (r := 83) rfl rfl (hR _ fmR_50_58 (by decide)) ?_
        refine w_iload rfl rfl ?_
        refine w_ialdv (j := 2) (x := (-1)) rfl rfl (by decide) (by unfold vp_in; decide) (hI _ fmI_83_2 (by decide)) ?_
        refine w_pushI rfl ?_
        refine w_icmp_ne rfl (fun h => absurd (by decide) h) (fun _ => ?_)
        refine w_pushI rfl ?_
        refine w_goto rfl ?_
        refine w_iret rfl (Or.inl rfl) ?_
        show gW _ _ _ _ _ _ _ _ _ _
        refine w_iret rfl (Or.inl rfl) ?_
        exact congrArg (fun v => some (Value.int v)) (show ((-11) : Int32) = f1_dead (2) by have e0 : (2 : Int32).toInt = 2 := rfl; exact ite_eq_of (fun _ => rfl) (fun hc => absurd (by omega) hc))
      · obtain rfl : a = 3 := i_is hs3 (by decide)
        refine w_ialdv (j := 3) (x := (-1)) rfl rfl (by decide) (by unfold vp_in; decide) (hI _ fmI_83_3 (by decide)) ?_
        refine w_pushI rfl ?_
        refine w_icmp_ne rfl (fun h => absurd (by decide) h) (fun _ => ?_)
        refine w_pushI rfl ?_
        refine w_goto rfl ?_
        refine w_iret rfl (Or.inl rfl) ?_
        show gW _ _ _ _ _ _ _ _ _ _
        refine w_if_ge rfl (fun h => absurd h (by decide)) (fun _ => ?_)
        refine w_aload rfl rfl ?_
        refine w_iload rfl rfl ?_
        refine w_topv (z := 3) (by decide) ?_
        refine w_callVi (As := [_]) (le := [some _, some _]) rfl rfl rfl (Nat.le_of_ble_eq_true rfl) (Nat.le_of_ble_eq_true rfl) rfl ?_
        refine w_aload rfl rfl ?_
        refine w_getR (r := 83) rfl rfl (hR _ fmR_50_58 (by decide)) ?_
        refine w_iload rfl rfl ?_
        refine w_ialdv (j := 3) (x := (-1)) rfl rfl (by decide) (by unfold vp_in; decide) (hI _ fmI_83_3 (by decide)) ?_
        refine w_pushI rfl ?_
        refine w_icmp_ne rfl (fun h => absurd (by decide) h) (fun _ => ?_)
        refine w_pushI rfl ?_
        refine w_goto rfl ?_
        refine w_iret rfl (Or.inl rfl) ?_
        show gW _ _ _ _ _ _ _ _ _ _
        refine w_iret rfl (Or.inl rfl) ?_
        exact congrArg (fun v => some (Value.int v)) (show ((-11) : Int32) = f1_dead (3) by have e0 : (3 : Int32).toInt = 3 := rfl; exact ite_eq_of (fun _ => rfl) (fun hc => absurd (by omega) hc))
      · obtain rfl : a = 4 := i_is hs3 (by decide)
        refine w_ialdv (j := 4) (x := (-1)) rfl rfl (by decide) (by unfold vp_in; decide) (hI _ fmI_83_4 (by decide)) ?_
        refine w_pushI rfl ?_
        refine w_icmp_ne rfl (fun h => absurd (by decide) h) (fun _ => ?_)
        refine w_pushI rfl ?_
        refine w_goto rfl ?_
        refine w_iret rfl (Or.inl rfl) ?_
        show gW _ _ _ _ _ _ _ _ _ _
        refine w_if_ge rfl (fun h => absurd h (by decide)) (fun _ => ?_)
        refine w_aload rfl rfl ?_
        refine w_iload rfl rfl ?_
        refine w_topv (z := 4) (by decide) ?_
        refine w_callVi (As := [_]) (le := [some _, some _]) rfl rfl rfl (Nat.le_of_ble_eq_true rfl) (Nat.le_of_ble_eq_true rfl) rfl ?_
        refine w_aload rfl rfl ?_
        refine w_getR (r := 83) rfl rfl (hR _ fmR_50_58 (by decide)) ?_
        refine w_iload rfl rfl ?_
        refine w_ialdv (j := 4) (x := (-1)) rfl rfl (by decide) (by unfold vp_in; decide) (hI _ fmI_83_4 (by decide)) ?_
        refine w_pushI rfl ?_
        refine w_icmp_ne rfl (fun h => absurd (by decide) h) (fun _ => ?_)
        refine w_pushI rfl ?_
        refine w_goto rfl ?_
        refine w_iret rfl (Or.inl rfl) ?_
        show gW _ _ _ _ _ _ _ _ _ _
        refine w_iret rfl (Or.inl rfl) ?_
        exact congrArg (fun v => some (Value.int v)) (show ((-11) : Int32) = f1_dead (4) by have e0 : (4 : Int32).toInt = 4 := rfl; exact ite_eq_of (fun _ => rfl) (fun hc => absurd (by omega) hc))
      · obtain rfl : a = 5 := i_is hs3 (by decide)
        refine w_ialdv (j := 5) (x := (-1)) rfl rfl (by decide) (by unfold vp_in; decide) (hI _ fmI_83_5 (by decide)) ?_
        refine w_pushI rfl ?_
        refine w_icmp_ne rfl (fun h => absurd (by decide) h) (fun _ => ?_)
        refine w_pushI rfl ?_
        refine w_goto rfl ?_
        refine w_iret rfl (Or.inl rfl) ?_
        show gW _ _ _ _ _ _ _ _ _ _
        refine w_if_ge rfl (fun h => absurd h (by decide)) (fun _ => ?_)
        refine w_aload rfl rfl ?_
        refine w_iload rfl rfl ?_
        refine w_topv (z := 5) (by decide) ?_
        refine w_callVi (As := [_]) (le := [some _, some _]) rfl rfl rfl (Nat.le_of_ble_eq_true rfl) (Nat.le_of_ble_eq_true rfl) rfl ?_
        refine w_aload rfl rfl ?_
        refine w_getR (r := 83) rfl rfl (hR _ fmR_50_58 (by decide)) ?_
        refine w_iload rfl rfl ?_
        refine w_ialdv (j := 5) (x := (-1)) rfl rfl (by decide) (by unfold vp_in; decide) (hI _ fmI_83_5 (by decide)) ?_
        refine w_pushI rfl ?_
        refine w_icmp_ne rfl (fun h => absurd (by decide) h) (fun _ => ?_)
        refine w_pushI rfl ?_
        refine w_goto rfl ?_
        refine w_iret rfl (Or.inl rfl) ?_
        show gW _ _ _ _ _ _ _ _ _ _
        refine w_iret rfl (Or.inl rfl) ?_
        exact congrArg (fun v => some (Value.int v)) (show ((-11) : Int32) = f1_dead (5) by have e0 : (5 : Int32).toInt = 5 := rfl; exact ite_eq_of (fun _ => rfl) (fun hc => absurd (by omega) hc))
set_option maxHeartbeats 40000000 in
set_option maxRecDepth 100000 in
theorem a1_strangers {X : Nat × (Nat → Int32)} {d : Nat} {I : Nat → Nat → Int32} {L : Nat → Nat → Int64} {R : Nat → Nat → Option Nat} (hI : ∀ q ∈ gFlI, I q.1 q.2.1 = q.2.2) (hL : ∀ q ∈ gFlL, L q.1 q.2.1 = q.2.2) (hR : ∀ q ∈ gFlR, R q.1 q.2.1 = some q.2.2) (a : Int32) (b : Int32) : gW X (d + 12) 120 0 0 0 (gEn 120 [.ref 0, .int a, .int b]) [] (gK 87, I, L, R) (fun r σ => r = some (.int (f1_strangers a b)) ∧ gFr σ I L R) := by
  show gW _ _ _ _ _ _ [some (.ref 0), some (.int a), some (.int b), none, none, none] _ _ _
  refine w_iload rfl rfl ?_
  refine w_callSi (As := [_]) (le := [some _]) rfl rfl (Nat.le_of_ble_eq_true rfl) (Nat.le_of_ble_eq_true rfl) rfl ?_
  refine w_iload rfl rfl ?_
  refine w_if_ltZ rfl rfl (fun h1 => ?_) (fun h1 => ?_)
  · refine w_pushI rfl ?_
    refine w_iret rfl (Or.inr ⟨rfl, by decide⟩) ?_
    show gW _ _ _ _ _ _ _ _ _ _
    refine w_if_eq rfl (fun _ => ?_) (fun h => absurd (by decide) h)
    refine w_pushI rfl ?_
    refine w_iret rfl (Or.inl rfl) ?_
    exact ⟨congrArg (fun v => some (Value.int v)) (show ((-1) : Int32) = f1_strangers a b by exact ite_eq_of (fun hc => absurd hc (by omega)) (fun _ => rfl)), rfl, fun x hx => rfl, fun x hx => rfl, fun x hx => rfl⟩
  · refine w_iload rfl rfl ?_
    refine w_pushI rfl ?_
    refine w_icmp_geZ (b := 6) rfl rfl (by decide) (fun h2 => ?_) (fun h2 => ?_)
    · refine w_pushI rfl ?_
      refine w_iret rfl (Or.inr ⟨rfl, by decide⟩) ?_
      show gW _ _ _ _ _ _ _ _ _ _
      refine w_if_eq rfl (fun _ => ?_) (fun h => absurd (by decide) h)
      refine w_pushI rfl ?_
      refine w_iret rfl (Or.inl rfl) ?_
      exact ⟨congrArg (fun v => some (Value.int v)) (show ((-1) : Int32) = f1_strangers a b by exact ite_eq_of (fun hc => absurd hc (by omega)) (fun _ => rfl)), rfl, fun x hx => rfl, fun x hx => rfl, fun x hx => rfl⟩
    · refine w_pushI rfl ?_
      refine w_goto rfl ?_
      refine w_iret rfl (Or.inr ⟨rfl, by decide⟩) ?_
      show gW _ _ _ _ _ _ _ _ _ _
      refine w_if_eq rfl (fun h => absurd h (by decide)) (fun _ => ?_)
      refine w_iload rfl rfl ?_
      refine w_if_ltZ rfl rfl (fun h3 => ?_) (fun h3 => ?_)
      · refine w_pushI rfl ?_
        refine w_iret rfl (Or.inl rfl) ?_
        exact ⟨congrArg (fun v => some (Value.int v)) (show ((-1) : Int32) = f1_strangers a b by exact ite_eq_of (fun hc => absurd hc (by omega)) (fun _ => rfl)), rfl, fun x hx => rfl, fun x hx => rfl, fun x hx => rfl⟩
      · refine w_iload rfl rfl ?_
        refine w_pushI rfl ?_
        refine w_icmp_leZ (b := 2) rfl rfl (by decide) (fun h4 => ?_) (fun h4 => ?_)
        · refine w_aload rfl rfl ?_
          refine w_getR (r := 37) rfl rfl (hR _ fmR_0_11) ?_
          refine w_iload rfl rfl ?_
          rcases (show a.toInt = 0 ∨ a.toInt = 1 ∨ a.toInt = 2 ∨ a.toInt = 3 ∨ a.toInt = 4 ∨ a.toInt = 5 by omega) with hs5 | hs5 | hs5 | hs5 | hs5 | hs5
          · obtain rfl : a = 0 := i_is hs5 (by decide)
            refine w_aaldv (j := 0) (r := 38) rfl rfl (by decide) (by unfold vp_in; decide) (hR _ fmR_37_0) ?_
            refine w_callVi (As := []) (le := [some _]) rfl rfl rfl (Nat.le_of_ble_eq_true rfl) (Nat.le_of_ble_eq_true rfl) rfl ?_
            refine w_aload rfl rfl ?_
            refine w_getIv (x := 0) rfl rfl (hI _ fmI_38_0) ?_
            refine w_if_ne rfl (fun h => absurd (by decide) h) (fun _ => ?_)
            refine w_pushI rfl ?_
            refine w_iret rfl (Or.inl rfl) ?_
            show gW _ _ _ _ _ _ _ _ _ _
            refine w_istore rfl rfl ?_
            refine w_iload rfl rfl ?_
            refine w_if_ge rfl (fun h => absurd h (by decide)) (fun _ => ?_)
            refine w_iload rfl rfl ?_
            refine w_iret rfl (Or.inl rfl) ?_
            exact ⟨congrArg (fun v => some (Value.int v)) (show ((-11) : Int32) = f1_strangers (0) b by have e0 : (0 : Int32).toInt = 0 := rfl; exact ite_eq_of (fun _ => rfl) (fun hc => absurd (by omega) hc)), rfl, fun x hx => rfl, fun x hx => rfl, fun x hx => rfl⟩
          · obtain rfl : a = 1 := i_is hs5 (by decide)
            refine w_aaldv (j := 1) (r := 40) rfl rfl (by decide) (by unfold vp_in; decide) (hR _ fmR_37_1) ?_
            refine w_callVi (As := []) (le := [some _]) rfl rfl rfl (Nat.le_of_ble_eq_true rfl) (Nat.le_of_ble_eq_true rfl) rfl ?_
            refine w_aload rfl rfl ?_
            refine w_getIv (x := 0) rfl rfl (hI _ fmI_40_0) ?_
            refine w_if_ne rfl (fun h => absurd (by decide) h) (fun _ => ?_)
            refine w_pushI rfl ?_
            refine w_iret rfl (Or.inl rfl) ?_
            show gW _ _ _ _ _ _ _ _ _ _
            refine w_istore rfl rfl ?_
            refine w_iload rfl rfl ?_
            refine w_if_ge rfl (fun h => absurd h (by decide)) (fun _ => ?_)
            refine w_iload rfl rfl ?_
            refine w_iret rfl (Or.inl rfl) ?_
            exact ⟨congrArg (fun v => some (Value.int v)) (show ((-11) : Int32) = f1_strangers (1) b by have e0 : (1 : Int32).toInt = 1 := rfl; exact ite_eq_of (fun _ => rfl) (fun hc => absurd (by omega) hc)), rfl, fun x hx => rfl, fun x hx => rfl, fun x hx => rfl⟩
          · obtain rfl : a = 2 := i_is hs5 (by decide)
            refine w_aaldv (j := 2) (r := 42) rfl rfl (by decide) (by unfold vp_in; decide) (hR _ fmR_37_2) ?_
            refine w_callVi (As := []) (le := [some _]) rfl rfl rfl (Nat.le_of_ble_eq_true rfl) (Nat.le_of_ble_eq_true rfl) rfl ?_
            refine w_aload rfl rfl ?_
            refine w_getIv (x := 0) rfl rfl (hI _ fmI_42_0) ?_
            refine w_if_ne rfl (fun h => absurd (by decide) h) (fun _ => ?_)
            refine w_pushI rfl ?_
            refine w_iret rfl (Or.inl rfl) ?_
            show gW _ _ _ _ _ _ _ _ _ _
            refine w_istore rfl rfl ?_
            refine w_iload rfl rfl ?_
            refine w_if_ge rfl (fun h => absurd h (by decide)) (fun _ => ?_)
            refine w_iload rfl rfl ?_
            refine w_iret rfl (Or.inl rfl) ?_
            exact ⟨congrArg (fun v => some (Value.int v)) (show ((-11) : Int32) = f1_strangers (2) b by have e0 : (2 : Int32).toInt = 2 := rfl; exact ite_eq_of (fun _ => rfl) (fun hc => absurd (by omega) hc)), rfl, fun x hx => rfl, fun x hx => rfl, fun x hx => rfl⟩
          · obtain rfl : a = 3 := i_is hs5 (by decide)
            refine w_aaldv (j := 3) (r := 44) rfl rfl (by decide) (by unfold vp_in; decide) (hR _ fmR_37_3) ?_
            refine w_callVi (As := []) (le := [some _]) rfl rfl rfl (Nat.le_of_ble_eq_true rfl) (Nat.le_of_ble_eq_true rfl) rfl ?_
            refine w_aload rfl rfl ?_
            refine w_getIv (x := 0) rfl rfl (hI _ fmI_44_0) ?_
            refine w_if_ne rfl (fun h => absurd (by decide) h) (fun _ => ?_)
            refine w_pushI rfl ?_
            refine w_iret rfl (Or.inl rfl) ?_
            show gW _ _ _ _ _ _ _ _ _ _
            refine w_istore rfl rfl ?_
            refine w_iload rfl rfl ?_
            refine w_if_ge rfl (fun h => absurd h (by decide)) (fun _ => ?_)
            refine w_iload rfl rfl ?_
            refine w_iret rfl (Or.inl rfl) ?_
            exact ⟨congrArg (fun v => some (Value.int v)) (show ((-11) : Int32) = f1_strangers (3) b by have e0 : (3 : Int32).toInt = 3 := rfl; exact ite_eq_of (fun _ => rfl) (fun hc => absurd (by omega) hc)), rfl, fun x hx => rfl, fun x hx => rfl, fun x hx => rfl⟩
          · obtain rfl : a = 4 := i_is hs5 (by decide)
            refine w_aaldv (j := 4) (r := 46) rfl rfl (by decide) (by unfold vp_in; decide) (hR _ fmR_37_4) ?_
            refine w_callVi (As := []) (le := [some _]) rfl rfl rfl (Nat.le_of_ble_eq_true rfl) (Nat.le_of_ble_eq_true rfl) rfl ?_
            refine w_aload rfl rfl ?_
            refine w_getIv (x := 0) rfl rfl (hI _ fmI_46_0) ?_
            refine w_if_ne rfl (fun h => absurd (by decide) h) (fun _ => ?_)
            refine w_pushI rfl ?_
            refine w_iret rfl (Or.inl rfl) ?_
            show gW _ _ _ _ _ _ _ _ _ _
            refine w_istore rfl rfl ?_
            refine w_iload rfl rfl ?_
            refine w_if_ge rfl (fun h => absurd h (by decide)) (fun _ => ?_)
            refine w_iload rfl rfl ?_
            refine w_iret rfl (Or.inl rfl) ?_
            exact ⟨congrArg (fun v => some (Value.int v)) (show ((-11) : Int32) = f1_strangers (4) b by have e0 : (4 : Int32).toInt = 4 := rfl; exact ite_eq_of (fun _ => rfl) (fun hc => absurd (by omega) hc)), rfl, fun x hx => rfl, fun x hx => rfl, fun x hx => rfl⟩
          · obtain rfl : a = 5 := i_is hs5 (by decide)
            refine w_aaldv (j := 5) (r := 48) rfl rfl (by decide) (by unfold vp_in; decide) (hR _ fmR_37_5) ?_
            refine w_callVi (As := []) (le := [some _]) rfl rfl rfl (Nat.le_of_ble_eq_true rfl) (Nat.le_of_ble_eq_true rfl) rfl ?_
            refine w_aload rfl rfl ?_
            refine w_getIv (x := 0) rfl rfl (hI _ fmI_48_0) ?_
            refine w_if_ne rfl (fun h => absurd (by decide) h) (fun _ => ?_)
            refine w_pushI rfl ?_
            refine w_iret rfl (Or.inl rfl) ?_
            show gW _ _ _ _ _ _ _ _ _ _
            refine w_istore rfl rfl ?_
            refine w_iload rfl rfl ?_
            refine w_if_ge rfl (fun h => absurd h (by decide)) (fun _ => ?_)
            refine w_iload rfl rfl ?_
            refine w_iret rfl (Or.inl rfl) ?_
            exact ⟨congrArg (fun v => some (Value.int v)) (show ((-11) : Int32) = f1_strangers (5) b by have e0 : (5 : Int32).toInt = 5 := rfl; exact ite_eq_of (fun _ => rfl) (fun hc => absurd (by omega) hc)), rfl, fun x hx => rfl, fun x hx => rfl, fun x hx => rfl⟩
        · refine w_pushI rfl ?_
          refine w_iret rfl (Or.inl rfl) ?_
          exact ⟨congrArg (fun v => some (Value.int v)) (show ((-1) : Int32) = f1_strangers a b by exact ite_eq_of (fun hc => absurd hc (by omega)) (fun _ => rfl)), rfl, fun x hx => rfl, fun x hx => rfl, fun x hx => rfl⟩
set_option maxHeartbeats 40000000 in
set_option maxRecDepth 100000 in
theorem a2_strangers {X : Nat × (Nat → Int32)} {d : Nat} {I : Nat → Nat → Int32} {L : Nat → Nat → Int64} {R : Nat → Nat → Option Nat} (hI : ∀ q ∈ gFlI, 50 ≤ q.1 → I q.1 q.2.1 = q.2.2) (hL : ∀ q ∈ gFlL, 50 ≤ q.1 → L q.1 q.2.1 = q.2.2) (hR : ∀ q ∈ gFlR, 50 ≤ q.1 → R q.1 q.2.1 = some q.2.2) (a : Int32) (b : Int32) : gW X (d + 12) 216 0 0 0 (gEn 216 [.ref 50, .int a, .int b]) [] (gK 87, I, L, R) (fun r _ => r = some (.int (f1_strangers a b))) := by
  show gW _ _ _ _ _ _ [some (.ref 50), some (.int a), some (.int b), none, none, none] _ _ _
  refine w_iload rfl rfl ?_
  refine w_callSi (As := [_]) (le := [some _]) rfl rfl (Nat.le_of_ble_eq_true rfl) (Nat.le_of_ble_eq_true rfl) rfl ?_
  refine w_iload rfl rfl ?_
  refine w_pushI rfl ?_
  refine w_pushI rfl ?_
  refine w_callSi (As := [_, _, _]) (le := [some _, some _, some _]) rfl rfl (Nat.le_of_ble_eq_true rfl) (Nat.le_of_ble_eq_true rfl) rfl ?_
  refine w_iload rfl rfl ?_
  refine w_iload rfl rfl ?_
  refine w_icmp_ltZ (b := 0) rfl rfl (by decide) (fun h1 => ?_) (fun h1 => ?_)
  · refine w_pushI rfl ?_
    refine w_iret rfl (Or.inr ⟨rfl, by decide⟩) ?_
    show gW _ _ _ _ _ _ _ _ _ _
    refine w_iret rfl (Or.inr ⟨rfl, by decide⟩) ?_
    show gW _ _ _ _ _ _ _ _ _ _
    refine w_if_eq rfl (fun _ => ?_) (fun h => absurd (by decide) h)
    refine w_pushI rfl ?_
    refine w_iret rfl (Or.inl rfl) ?_
    exact congrArg (fun v => some (Value.int v)) (show ((-1) : Int32) = f1_strangers a b by exact ite_eq_of (fun hc => absurd hc (by omega)) (fun _ => rfl))
  · refine w_iload rfl rfl ?_
    refine w_iload rfl rfl ?_
    refine w_icmp_gtZ (b := 5) rfl rfl (by decide) (fun h2 => ?_) (fun h2 => ?_)
    · refine w_pushI rfl ?_
      refine w_iret rfl (Or.inr ⟨rfl, by decide⟩) ?_
      show gW _ _ _ _ _ _ _ _ _ _
      refine w_iret rfl (Or.inr ⟨rfl, by decide⟩) ?_
      show gW _ _ _ _ _ _ _ _ _ _
      refine w_if_eq rfl (fun _ => ?_) (fun h => absurd (by decide) h)
      refine w_pushI rfl ?_
      refine w_iret rfl (Or.inl rfl) ?_
      exact congrArg (fun v => some (Value.int v)) (show ((-1) : Int32) = f1_strangers a b by exact ite_eq_of (fun hc => absurd hc (by omega)) (fun _ => rfl))
    · refine w_pushI rfl ?_
      refine w_goto rfl ?_
      refine w_iret rfl (Or.inr ⟨rfl, by decide⟩) ?_
      show gW _ _ _ _ _ _ _ _ _ _
      refine w_iret rfl (Or.inr ⟨rfl, by decide⟩) ?_
      show gW _ _ _ _ _ _ _ _ _ _
      refine w_if_eq rfl (fun h => absurd h (by decide)) (fun _ => ?_)
      refine w_iload rfl rfl ?_
      refine w_pushI rfl ?_
      refine w_pushI rfl ?_
      refine w_callSi (As := [_, _, _]) (le := [some _, some _, some _]) rfl rfl (Nat.le_of_ble_eq_true rfl) (Nat.le_of_ble_eq_true rfl) rfl ?_
      refine w_iload rfl rfl ?_
      refine w_iload rfl rfl ?_
      refine w_icmp_ltZ (b := 0) rfl rfl (by decide) (fun h3 => ?_) (fun h3 => ?_)
      · refine w_pushI rfl ?_
        refine w_iret rfl (Or.inr ⟨rfl, by decide⟩) ?_
        show gW _ _ _ _ _ _ _ _ _ _
        refine w_if_ne rfl (fun h => absurd (by decide) h) (fun _ => ?_)
        refine w_pushI rfl ?_
        refine w_iret rfl (Or.inl rfl) ?_
        exact congrArg (fun v => some (Value.int v)) (show ((-1) : Int32) = f1_strangers a b by exact ite_eq_of (fun hc => absurd hc (by omega)) (fun _ => rfl))
      · refine w_iload rfl rfl ?_
        refine w_iload rfl rfl ?_
        refine w_icmp_gtZ (b := 2) rfl rfl (by decide) (fun h4 => ?_) (fun h4 => ?_)
        · refine w_pushI rfl ?_
          refine w_iret rfl (Or.inr ⟨rfl, by decide⟩) ?_
          show gW _ _ _ _ _ _ _ _ _ _
          refine w_if_ne rfl (fun h => absurd (by decide) h) (fun _ => ?_)
          refine w_pushI rfl ?_
          refine w_iret rfl (Or.inl rfl) ?_
          exact congrArg (fun v => some (Value.int v)) (show ((-1) : Int32) = f1_strangers a b by exact ite_eq_of (fun hc => absurd hc (by omega)) (fun _ => rfl))
        · refine w_pushI rfl ?_
          refine w_goto rfl ?_
          refine w_iret rfl (Or.inr ⟨rfl, by decide⟩) ?_
          show gW _ _ _ _ _ _ _ _ _ _
          refine w_if_ne rfl (fun _ => ?_) (fun h => absurd h (by decide))
          refine w_aload rfl rfl ?_
          refine w_iload rfl rfl ?_
          refine w_callVi (As := [_]) (le := [some _, some _]) rfl rfl rfl (Nat.le_of_ble_eq_true rfl) (Nat.le_of_ble_eq_true rfl) rfl ?_
          refine w_aload rfl rfl ?_
          refine w_getR (r := 83) rfl rfl (hR _ fmR_50_58 (by decide)) ?_
          refine w_iload rfl rfl ?_
          rcases (show a.toInt = 0 ∨ a.toInt = 1 ∨ a.toInt = 2 ∨ a.toInt = 3 ∨ a.toInt = 4 ∨ a.toInt = 5 by omega) with hs5 | hs5 | hs5 | hs5 | hs5 | hs5
          · obtain rfl : a = 0 := i_is hs5 (by decide)
            refine w_ialdv (j := 0) (x := (-1)) rfl rfl (by decide) (by unfold vp_in; decide) (hI _ fmI_83_0 (by decide)) ?_
            refine w_pushI rfl ?_
            refine w_icmp_ne rfl (fun h => absurd (by decide) h) (fun _ => ?_)
            refine w_pushI rfl ?_
            refine w_goto rfl ?_
            refine w_iret rfl (Or.inl rfl) ?_
            show gW _ _ _ _ _ _ _ _ _ _
            refine w_if_ge rfl (fun h => absurd h (by decide)) (fun _ => ?_)
            refine w_aload rfl rfl ?_
            refine w_iload rfl rfl ?_
            refine w_topv (z := 0) (by decide) ?_
            refine w_callVi (As := [_]) (le := [some _, some _]) rfl rfl rfl (Nat.le_of_ble_eq_true rfl) (Nat.le_of_ble_eq_true rfl) rfl ?_
            refine w_aload rfl rfl ?_
            refine w_getR (r := 83) rfl rfl (hR _ fmR_50_58 (by decide)) ?_
            refine w_iload rfl rfl ?_
            refine w_ialdv (j := 0) (x := (-1)) rfl rfl (by decide) (by unfold vp_in; decide) (hI _ fmI_83_0 (by decide)) ?_
            refine w_pushI rfl ?_
            refine w_icmp_ne rfl (fun h => absurd (by decide) h) (fun _ => ?_)
            refine w_pushI rfl ?_
            refine w_goto rfl ?_
            refine w_iret rfl (Or.inl rfl) ?_
            show gW _ _ _ _ _ _ _ _ _ _
            refine w_iret rfl (Or.inl rfl) ?_
            exact congrArg (fun v => some (Value.int v)) (show ((-11) : Int32) = f1_strangers (0) b by have e0 : (0 : Int32).toInt = 0 := rfl; exact ite_eq_of (fun _ => rfl) (fun hc => absurd (by omega) hc))
          · obtain rfl : a = 1 := i_is hs5 (by decide)
            refine w_ialdv (j := 1) (x := (-1)) rfl rfl (by decide) (by unfold vp_in; decide) (hI _ fmI_83_1 (by decide)) ?_
            refine w_pushI rfl ?_
            refine w_icmp_ne rfl (fun h => absurd (by decide) h) (fun _ => ?_)
            refine w_pushI rfl ?_
            refine w_goto rfl ?_
            refine w_iret rfl (Or.inl rfl) ?_
            show gW _ _ _ _ _ _ _ _ _ _
            refine w_if_ge rfl (fun h => absurd h (by decide)) (fun _ => ?_)
            refine w_aload rfl rfl ?_
            refine w_iload rfl rfl ?_
            refine w_topv (z := 1) (by decide) ?_
            refine w_callVi (As := [_]) (le := [some _, some _]) rfl rfl rfl (Nat.le_of_ble_eq_true rfl) (Nat.le_of_ble_eq_true rfl) rfl ?_
            refine w_aload rfl rfl ?_
            refine w_getR (r := 83) rfl rfl (hR _ fmR_50_58 (by decide)) ?_
            refine w_iload rfl rfl ?_
            refine w_ialdv (j := 1) (x := (-1)) rfl rfl (by decide) (by unfold vp_in; decide) (hI _ fmI_83_1 (by decide)) ?_
            refine w_pushI rfl ?_
            refine w_icmp_ne rfl (fun h => absurd (by decide) h) (fun _ => ?_)
            refine w_pushI rfl ?_
            refine w_goto rfl ?_
            refine w_iret rfl (Or.inl rfl) ?_
            show gW _ _ _ _ _ _ _ _ _ _
            refine w_iret rfl (Or.inl rfl) ?_
            exact congrArg (fun v => some (Value.int v)) (show ((-11) : Int32) = f1_strangers (1) b by have e0 : (1 : Int32).toInt = 1 := rfl; exact ite_eq_of (fun _ => rfl) (fun hc => absurd (by omega) hc))
          · obtain rfl : a = 2 := i_is hs5 (by decide)
            refine w_ialdv (j := 2) (x := (-1)) rfl rfl (by decide) (by unfold vp_in; decide) (hI _ fmI_83_2 (by decide)) ?_
            refine w_pushI rfl ?_
            refine w_icmp_ne rfl (fun h => absurd (by decide) h) (fun _ => ?_)
            refine w_pushI rfl ?_
            refine w_goto rfl ?_
            refine w_iret rfl (Or.inl rfl) ?_
            show gW _ _ _ _ _ _ _ _ _ _
            refine w_if_ge rfl (fun h => absurd h (by decide)) (fun _ => ?_)
            refine w_aload rfl rfl ?_
            refine w_iload rfl rfl ?_
            refine w_topv (z := 2) (by decide) ?_
            refine w_callVi (As := [_]) (le := [some _, some _]) rfl rfl rfl (Nat.le_of_ble_eq_true rfl) (Nat.le_of_ble_eq_true rfl) rfl ?_
            refine w_aload rfl rfl ?_
            refine w_getR (r := 83) rfl rfl (hR _ fmR_50_58 (by decide)) ?_
            refine w_iload rfl rfl ?_
            refine w_ialdv (j := 2) (x := (-1)) rfl rfl (by decide) (by unfold vp_in; decide) (hI _ fmI_83_2 (by decide)) ?_
            refine w_pushI rfl ?_
            refine w_icmp_ne rfl (fun h => absurd (by decide) h) (fun _ => ?_)
            refine w_pushI rfl ?_
            refine w_goto rfl ?_
            refine w_iret rfl (Or.inl rfl) ?_
            show gW _ _ _ _ _ _ _ _ _ _
            refine w_iret rfl (Or.inl rfl) ?_
            exact congrArg (fun v => some (Value.int v)) (show ((-11) : Int32) = f1_strangers (2) b by have e0 : (2 : Int32).toInt = 2 := rfl; exact ite_eq_of (fun _ => rfl) (fun hc => absurd (by omega) hc))
          · obtain rfl : a = 3 := i_is hs5 (by decide)
            refine w_ialdv (j := 3) (x := (-1)) rfl rfl (by decide) (by unfold vp_in; decide) (hI _ fmI_83_3 (by decide)) ?_
            refine w_pushI rfl ?_
            refine w_icmp_ne rfl (fun h => absurd (by decide) h) (fun _ => ?_)
            refine w_pushI rfl ?_
            refine w_goto rfl ?_
            refine w_iret rfl (Or.inl rfl) ?_
            show gW _ _ _ _ _ _ _ _ _ _
            refine w_if_ge rfl (fun h => absurd h (by decide)) (fun _ => ?_)
            refine w_aload rfl rfl ?_
            refine w_iload rfl rfl ?_
            refine w_topv (z := 3) (by decide) ?_
            refine w_callVi (As := [_]) (le := [some _, some _]) rfl rfl rfl (Nat.le_of_ble_eq_true rfl) (Nat.le_of_ble_eq_true rfl) rfl ?_
            refine w_aload rfl rfl ?_
            refine w_getR (r := 83) rfl rfl (hR _ fmR_50_58 (by decide)) ?_
            refine w_iload rfl rfl ?_
            refine w_ialdv (j := 3) (x := (-1)) rfl rfl (by decide) (by unfold vp_in; decide) (hI _ fmI_83_3 (by decide)) ?_
            refine w_pushI rfl ?_
            refine w_icmp_ne rfl (fun h => absurd (by decide) h) (fun _ => ?_)
            refine w_pushI rfl ?_
            refine w_goto rfl ?_
            refine w_iret rfl (Or.inl rfl) ?_
            show gW _ _ _ _ _ _ _ _ _ _
            refine w_iret rfl (Or.inl rfl) ?_
            exact congrArg (fun v => some (Value.int v)) (show ((-11) : Int32) = f1_strangers (3) b by have e0 : (3 : Int32).toInt = 3 := rfl; exact ite_eq_of (fun _ => rfl) (fun hc => absurd (by omega) hc))
          · obtain rfl : a = 4 := i_is hs5 (by decide)
            refine w_ialdv (j := 4) (x := (-1)) rfl rfl (by decide) (by unfold vp_in; decide) (hI _ fmI_83_4 (by decide)) ?_
            refine w_pushI rfl ?_
            refine w_icmp_ne rfl (fun h => absurd (by decide) h) (fun _ => ?_)
            refine w_pushI rfl ?_
            refine w_goto rfl ?_
            refine w_iret rfl (Or.inl rfl) ?_
            show gW _ _ _ _ _ _ _ _ _ _
            refine w_if_ge rfl (fun h => absurd h (by decide)) (fun _ => ?_)
            refine w_aload rfl rfl ?_
            refine w_iload rfl rfl ?_
            refine w_topv (z := 4) (by decide) ?_
            refine w_callVi (As := [_]) (le := [some _, some _]) rfl rfl rfl (Nat.le_of_ble_eq_true rfl) (Nat.le_of_ble_eq_true rfl) rfl ?_
            refine w_aload rfl rfl ?_
            refine w_getR (r := 83) rfl rfl (hR _ fmR_50_58 (by decide)) ?_
            refine w_iload rfl rfl ?_
            refine w_ialdv (j := 4) (x := (-1)) rfl rfl (by decide) (by unfold vp_in; decide) (hI _ fmI_83_4 (by decide)) ?_
            refine w_pushI rfl ?_
            refine w_icmp_ne rfl (fun h => absurd (by decide) h) (fun _ => ?_)
            refine w_pushI rfl ?_
            refine w_goto rfl ?_
            refine w_iret rfl (Or.inl rfl) ?_
            show gW _ _ _ _ _ _ _ _ _ _
            refine w_iret rfl (Or.inl rfl) ?_
            exact congrArg (fun v => some (Value.int v)) (show ((-11) : Int32) = f1_strangers (4) b by have e0 : (4 : Int32).toInt = 4 := rfl; exact ite_eq_of (fun _ => rfl) (fun hc => absurd (by omega) hc))
          · obtain rfl : a = 5 := i_is hs5 (by decide)
            refine w_ialdv (j := 5) (x := (-1)) rfl rfl (by decide) (by unfold vp_in; decide) (hI _ fmI_83_5 (by decide)) ?_
            refine w_pushI rfl ?_
            refine w_icmp_ne rfl (fun h => absurd (by decide) h) (fun _ => ?_)
            refine w_pushI rfl ?_
            refine w_goto rfl ?_
            refine w_iret rfl (Or.inl rfl) ?_
            show gW _ _ _ _ _ _ _ _ _ _
            refine w_if_ge rfl (fun h => absurd h (by decide)) (fun _ => ?_)
            refine w_aload rfl rfl ?_
            refine w_iload rfl rfl ?_
            refine w_topv (z := 5) (by decide) ?_
            refine w_callVi (As := [_]) (le := [some _, some _]) rfl rfl rfl (Nat.le_of_ble_eq_true rfl) (Nat.le_of_ble_eq_true rfl) rfl ?_
            refine w_aload rfl rfl ?_
            refine w_getR (r := 83) rfl rfl (hR _ fmR_50_58 (by decide)) ?_
            refine w_iload rfl rfl ?_
            refine w_ialdv (j := 5) (x := (-1)) rfl rfl (by decide) (by unfold vp_in; decide) (hI _ fmI_83_5 (by decide)) ?_
            refine w_pushI rfl ?_
            refine w_icmp_ne rfl (fun h => absurd (by decide) h) (fun _ => ?_)
            refine w_pushI rfl ?_
            refine w_goto rfl ?_
            refine w_iret rfl (Or.inl rfl) ?_
            show gW _ _ _ _ _ _ _ _ _ _
            refine w_iret rfl (Or.inl rfl) ?_
            exact congrArg (fun v => some (Value.int v)) (show ((-11) : Int32) = f1_strangers (5) b by have e0 : (5 : Int32).toInt = 5 := rfl; exact ite_eq_of (fun _ => rfl) (fun hc => absurd (by omega) hc))
set_option maxHeartbeats 40000000 in
set_option maxRecDepth 100000 in
theorem a1_grass {X : Nat × (Nat → Int32)} {d : Nat} {I : Nat → Nat → Int32} {L : Nat → Nat → Int64} {R : Nat → Nat → Option Nat} (hI : ∀ q ∈ gFlI, I q.1 q.2.1 = q.2.2) (hL : ∀ q ∈ gFlL, L q.1 q.2.1 = q.2.2) (hR : ∀ q ∈ gFlR, R q.1 q.2.1 = some q.2.2) (a : Int32) (b : Int32) : gW X (d + 12) 122 0 0 0 (gEn 122 [.ref 0, .int a, .int b]) [] (gK 87, I, L, R) (fun r σ => r = some (.int (f1_grass a b)) ∧ gFr σ I L R) := by
  show gW _ _ _ _ _ _ [some (.ref 0), some (.int a), some (.int b), none, none, none, none] _ _ _
  refine w_iload rfl rfl ?_
  refine w_callSi (As := [_]) (le := [some _]) rfl rfl (Nat.le_of_ble_eq_true rfl) (Nat.le_of_ble_eq_true rfl) rfl ?_
  refine w_iload rfl rfl ?_
  refine w_if_ltZ rfl rfl (fun h1 => ?_) (fun h1 => ?_)
  · refine w_pushI rfl ?_
    refine w_iret rfl (Or.inr ⟨rfl, by decide⟩) ?_
    show gW _ _ _ _ _ _ _ _ _ _
    refine w_if_eq rfl (fun _ => ?_) (fun h => absurd (by decide) h)
    refine w_pushI rfl ?_
    refine w_iret rfl (Or.inl rfl) ?_
    exact ⟨congrArg (fun v => some (Value.int v)) (show ((-1) : Int32) = f1_grass a b by exact ite_eq_of (fun hc => absurd hc (by omega)) (fun _ => rfl)), rfl, fun x hx => rfl, fun x hx => rfl, fun x hx => rfl⟩
  · refine w_iload rfl rfl ?_
    refine w_pushI rfl ?_
    refine w_icmp_geZ (b := 10000) rfl rfl (by decide) (fun h2 => ?_) (fun h2 => ?_)
    · refine w_pushI rfl ?_
      refine w_iret rfl (Or.inr ⟨rfl, by decide⟩) ?_
      show gW _ _ _ _ _ _ _ _ _ _
      refine w_if_eq rfl (fun _ => ?_) (fun h => absurd (by decide) h)
      refine w_pushI rfl ?_
      refine w_iret rfl (Or.inl rfl) ?_
      exact ⟨congrArg (fun v => some (Value.int v)) (show ((-1) : Int32) = f1_grass a b by exact ite_eq_of (fun hc => absurd hc (by omega)) (fun _ => rfl)), rfl, fun x hx => rfl, fun x hx => rfl, fun x hx => rfl⟩
    · refine w_pushI rfl ?_
      refine w_goto rfl ?_
      refine w_iret rfl (Or.inr ⟨rfl, by decide⟩) ?_
      show gW _ _ _ _ _ _ _ _ _ _
      refine w_if_eq rfl (fun h => absurd h (by decide)) (fun _ => ?_)
      refine w_iload rfl rfl ?_
      refine w_callSi (As := [_]) (le := [some _]) rfl rfl (Nat.le_of_ble_eq_true rfl) (Nat.le_of_ble_eq_true rfl) rfl ?_
      refine w_iload rfl rfl ?_
      refine w_if_eqZ rfl rfl (fun h3 => ?_) (fun h3 => ?_)
      · obtain rfl : b = 0 := i_is (show b.toInt = 0 by omega) (by decide)
        refine w_pushI rfl ?_
        refine w_goto rfl ?_
        refine w_iret rfl (Or.inr ⟨rfl, by decide⟩) ?_
        show gW _ _ _ _ _ _ _ _ _ _
        refine w_if_ne rfl (fun _ => ?_) (fun h => absurd h (by decide))
        refine w_pushI rfl ?_
        refine w_istore rfl rfl ?_
        refine w_pushI rfl ?_
        refine w_istore rfl rfl ?_
        refine w_pushI rfl ?_
        refine w_istore rfl rfl ?_
        refine w_iload rfl rfl ?_
        refine w_aload rfl rfl ?_
        refine w_getR (r := 8) rfl rfl (hR _ fmR_0_1) ?_
        refine w_getIv (x := 0) rfl rfl (hI _ fmI_8_2) ?_
        refine w_icmp_ge rfl (fun _ => ?_) (fun h => absurd (by decide) h)
        refine w_iload rfl rfl ?_
        refine w_topv (z := 0) (by decide) ?_
        refine w_if_eq rfl (fun _ => ?_) (fun h => absurd (by decide) h)
        refine w_iload rfl rfl ?_
        refine w_goto rfl ?_
        refine w_iret rfl (Or.inl rfl) ?_
        exact ⟨congrArg (fun v => some (Value.int v)) (show ((-2) : Int32) = f1_grass a (0) by have e0 : (0 : Int32).toInt = 0 := rfl; exact ite_eq_of (fun _ => rfl) (fun hc => absurd (by omega) hc)), rfl, fun x hx => rfl, fun x hx => rfl, fun x hx => rfl⟩
      · refine w_iload rfl rfl ?_
        refine w_pushI rfl ?_
        refine w_icmp_neZ (b := 1) rfl rfl (by decide) (fun h4 => ?_) (fun h4 => ?_)
        · refine w_pushI rfl ?_
          refine w_iret rfl (Or.inr ⟨rfl, by decide⟩) ?_
          show gW _ _ _ _ _ _ _ _ _ _
          refine w_if_ne rfl (fun h => absurd (by decide) h) (fun _ => ?_)
          refine w_pushI rfl ?_
          refine w_iret rfl (Or.inl rfl) ?_
          exact ⟨congrArg (fun v => some (Value.int v)) (show ((-1) : Int32) = f1_grass a b by exact ite_eq_of (fun hc => (by exfalso; omega)) (fun hc => rfl)), rfl, fun x hx => rfl, fun x hx => rfl, fun x hx => rfl⟩
        · obtain rfl : b = 1 := i_is (show b.toInt = 1 by omega) (by decide)
          refine w_pushI rfl ?_
          refine w_goto rfl ?_
          refine w_iret rfl (Or.inr ⟨rfl, by decide⟩) ?_
          show gW _ _ _ _ _ _ _ _ _ _
          refine w_if_ne rfl (fun _ => ?_) (fun h => absurd h (by decide))
          refine w_pushI rfl ?_
          refine w_istore rfl rfl ?_
          refine w_pushI rfl ?_
          refine w_istore rfl rfl ?_
          refine w_pushI rfl ?_
          refine w_istore rfl rfl ?_
          refine w_iload rfl rfl ?_
          refine w_aload rfl rfl ?_
          refine w_getR (r := 8) rfl rfl (hR _ fmR_0_1) ?_
          refine w_getIv (x := 0) rfl rfl (hI _ fmI_8_2) ?_
          refine w_icmp_ge rfl (fun _ => ?_) (fun h => absurd (by decide) h)
          refine w_iload rfl rfl ?_
          refine w_topv (z := 1) (by decide) ?_
          refine w_if_eq rfl (fun h => absurd h (by decide)) (fun _ => ?_)
          refine w_iload rfl rfl ?_
          refine w_if_ge rfl (fun h => absurd h (by decide)) (fun _ => ?_)
          refine w_iload rfl rfl ?_
          refine w_goto rfl ?_
          refine w_iret rfl (Or.inl rfl) ?_
          exact ⟨congrArg (fun v => some (Value.int v)) (show ((-2) : Int32) = f1_grass a (1) by have e0 : (1 : Int32).toInt = 1 := rfl; exact ite_eq_of (fun _ => rfl) (fun hc => absurd (by omega) hc)), rfl, fun x hx => rfl, fun x hx => rfl, fun x hx => rfl⟩
set_option maxHeartbeats 40000000 in
set_option maxRecDepth 100000 in
theorem a2_grass {X : Nat × (Nat → Int32)} {d : Nat} {I : Nat → Nat → Int32} {L : Nat → Nat → Int64} {R : Nat → Nat → Option Nat} (hI : ∀ q ∈ gFlI, 50 ≤ q.1 → I q.1 q.2.1 = q.2.2) (hL : ∀ q ∈ gFlL, 50 ≤ q.1 → L q.1 q.2.1 = q.2.2) (hR : ∀ q ∈ gFlR, 50 ≤ q.1 → R q.1 q.2.1 = some q.2.2) (a : Int32) (b : Int32) : gW X (d + 12) 218 0 0 0 (gEn 218 [.ref 50, .int a, .int b]) [] (gK 87, I, L, R) (fun r _ => r = some (.int (f1_grass a b))) := by
  show gW _ _ _ _ _ _ [some (.ref 50), some (.int a), some (.int b), none, none] _ _ _
  refine w_iload rfl rfl ?_
  refine w_pushI rfl ?_
  refine w_pushI rfl ?_
  refine w_callSi (As := [_, _, _]) (le := [some _, some _, some _]) rfl rfl (Nat.le_of_ble_eq_true rfl) (Nat.le_of_ble_eq_true rfl) rfl ?_
  refine w_iload rfl rfl ?_
  refine w_iload rfl rfl ?_
  refine w_icmp_ltZ (b := 0) rfl rfl (by decide) (fun h1 => ?_) (fun h1 => ?_)
  · refine w_pushI rfl ?_
    refine w_iret rfl (Or.inr ⟨rfl, by decide⟩) ?_
    show gW _ _ _ _ _ _ _ _ _ _
    refine w_if_eq rfl (fun _ => ?_) (fun h => absurd (by decide) h)
    refine w_pushI rfl ?_
    refine w_iret rfl (Or.inl rfl) ?_
    exact congrArg (fun v => some (Value.int v)) (show ((-1) : Int32) = f1_grass a b by exact ite_eq_of (fun hc => absurd hc (by omega)) (fun _ => rfl))
  · refine w_iload rfl rfl ?_
    refine w_iload rfl rfl ?_
    refine w_icmp_gtZ (b := 9999) rfl rfl (by decide) (fun h2 => ?_) (fun h2 => ?_)
    · refine w_pushI rfl ?_
      refine w_iret rfl (Or.inr ⟨rfl, by decide⟩) ?_
      show gW _ _ _ _ _ _ _ _ _ _
      refine w_if_eq rfl (fun _ => ?_) (fun h => absurd (by decide) h)
      refine w_pushI rfl ?_
      refine w_iret rfl (Or.inl rfl) ?_
      exact congrArg (fun v => some (Value.int v)) (show ((-1) : Int32) = f1_grass a b by exact ite_eq_of (fun hc => absurd hc (by omega)) (fun _ => rfl))
    · refine w_pushI rfl ?_
      refine w_goto rfl ?_
      refine w_iret rfl (Or.inr ⟨rfl, by decide⟩) ?_
      show gW _ _ _ _ _ _ _ _ _ _
      refine w_if_eq rfl (fun h => absurd h (by decide)) (fun _ => ?_)
      refine w_iload rfl rfl ?_
      refine w_pushI rfl ?_
      refine w_pushI rfl ?_
      refine w_callSi (As := [_, _, _]) (le := [some _, some _, some _]) rfl rfl (Nat.le_of_ble_eq_true rfl) (Nat.le_of_ble_eq_true rfl) rfl ?_
      refine w_iload rfl rfl ?_
      refine w_iload rfl rfl ?_
      refine w_icmp_ltZ (b := 0) rfl rfl (by decide) (fun h3 => ?_) (fun h3 => ?_)
      · refine w_pushI rfl ?_
        refine w_iret rfl (Or.inr ⟨rfl, by decide⟩) ?_
        show gW _ _ _ _ _ _ _ _ _ _
        refine w_if_ne rfl (fun h => absurd (by decide) h) (fun _ => ?_)
        refine w_pushI rfl ?_
        refine w_iret rfl (Or.inl rfl) ?_
        exact congrArg (fun v => some (Value.int v)) (show ((-1) : Int32) = f1_grass a b by exact ite_eq_of (fun hc => absurd hc (by omega)) (fun _ => rfl))
      · refine w_iload rfl rfl ?_
        refine w_iload rfl rfl ?_
        refine w_icmp_gtZ (b := 1) rfl rfl (by decide) (fun h4 => ?_) (fun h4 => ?_)
        · refine w_pushI rfl ?_
          refine w_iret rfl (Or.inr ⟨rfl, by decide⟩) ?_
          show gW _ _ _ _ _ _ _ _ _ _
          refine w_if_ne rfl (fun h => absurd (by decide) h) (fun _ => ?_)
          refine w_pushI rfl ?_
          refine w_iret rfl (Or.inl rfl) ?_
          exact congrArg (fun v => some (Value.int v)) (show ((-1) : Int32) = f1_grass a b by exact ite_eq_of (fun hc => absurd hc (by omega)) (fun _ => rfl))
        · refine w_pushI rfl ?_
          refine w_goto rfl ?_
          refine w_iret rfl (Or.inr ⟨rfl, by decide⟩) ?_
          show gW _ _ _ _ _ _ _ _ _ _
          refine w_if_ne rfl (fun _ => ?_) (fun h => absurd h (by decide))
          refine w_aload rfl rfl ?_
          refine w_getIv (x := 0) rfl rfl (hI _ fmI_50_1 (by decide)) ?_
          refine w_if_ne rfl (fun h => absurd (by decide) h) (fun _ => ?_)
          refine w_pushI rfl ?_
          refine w_iret rfl (Or.inl rfl) ?_
          exact congrArg (fun v => some (Value.int v)) (show ((-2) : Int32) = f1_grass a b by exact ite_eq_of (fun _ => rfl) (fun hc => absurd (by omega) hc))
set_option maxHeartbeats 40000000 in
set_option maxRecDepth 100000 in
theorem a1_drawn {X : Nat × (Nat → Int32)} {d : Nat} {I : Nat → Nat → Int32} {L : Nat → Nat → Int64} {R : Nat → Nat → Option Nat} (hI : ∀ q ∈ gFlI, I q.1 q.2.1 = q.2.2) (hL : ∀ q ∈ gFlL, L q.1 q.2.1 = q.2.2) (hR : ∀ q ∈ gFlR, R q.1 q.2.1 = some q.2.2) (a : Int32) (b : Int32) (c : Int32) (g : Int32) : gW X (d + 12) 123 0 0 0 (gEn 123 [.ref 0, .int a, .int b, .int c, .int g]) [] (gK 87, I, L, R) (fun r σ => r = some (.int (f1_drawn a b c g)) ∧ gFr σ I L R) := by
  show gW _ _ _ _ _ _ [some (.ref 0), some (.int a), some (.int b), some (.int c), some (.int g), none] _ _ _
  refine w_iload rfl rfl ?_
  refine w_callSi (As := [_]) (le := [some _]) rfl rfl (Nat.le_of_ble_eq_true rfl) (Nat.le_of_ble_eq_true rfl) rfl ?_
  refine w_iload rfl rfl ?_
  refine w_if_ltZ rfl rfl (fun h1 => ?_) (fun h1 => ?_)
  · refine w_pushI rfl ?_
    refine w_iret rfl (Or.inr ⟨rfl, by decide⟩) ?_
    show gW _ _ _ _ _ _ _ _ _ _
    refine w_if_eq rfl (fun _ => ?_) (fun h => absurd (by decide) h)
    refine w_pushI rfl ?_
    refine w_iret rfl (Or.inl rfl) ?_
    exact ⟨congrArg (fun v => some (Value.int v)) (show ((-1) : Int32) = f1_drawn a b c g by exact ite_eq_of (fun hc => absurd hc (by omega)) (fun _ => rfl)), rfl, fun x hx => rfl, fun x hx => rfl, fun x hx => rfl⟩
  · refine w_iload rfl rfl ?_
    refine w_pushI rfl ?_
    refine w_icmp_geZ (b := 6) rfl rfl (by decide) (fun h2 => ?_) (fun h2 => ?_)
    · refine w_pushI rfl ?_
      refine w_iret rfl (Or.inr ⟨rfl, by decide⟩) ?_
      show gW _ _ _ _ _ _ _ _ _ _
      refine w_if_eq rfl (fun _ => ?_) (fun h => absurd (by decide) h)
      refine w_pushI rfl ?_
      refine w_iret rfl (Or.inl rfl) ?_
      exact ⟨congrArg (fun v => some (Value.int v)) (show ((-1) : Int32) = f1_drawn a b c g by exact ite_eq_of (fun hc => absurd hc (by omega)) (fun _ => rfl)), rfl, fun x hx => rfl, fun x hx => rfl, fun x hx => rfl⟩
    · refine w_pushI rfl ?_
      refine w_goto rfl ?_
      refine w_iret rfl (Or.inr ⟨rfl, by decide⟩) ?_
      show gW _ _ _ _ _ _ _ _ _ _
      refine w_if_eq rfl (fun h => absurd h (by decide)) (fun _ => ?_)
      refine w_iload rfl rfl ?_
      refine w_pushI rfl ?_
      refine w_icmp_ltZ (b := 1) rfl rfl (by decide) (fun h3 => ?_) (fun h3 => ?_)
      · refine w_pushI rfl ?_
        refine w_iret rfl (Or.inl rfl) ?_
        exact ⟨congrArg (fun v => some (Value.int v)) (show ((-1) : Int32) = f1_drawn a b c g by exact ite_eq_of (fun hc => absurd hc (by omega)) (fun _ => rfl)), rfl, fun x hx => rfl, fun x hx => rfl, fun x hx => rfl⟩
      · refine w_iload rfl rfl ?_
        refine w_pushI rfl ?_
        refine w_icmp_gtZ (b := 30) rfl rfl (by decide) (fun h4 => ?_) (fun h4 => ?_)
        · refine w_pushI rfl ?_
          refine w_iret rfl (Or.inl rfl) ?_
          exact ⟨congrArg (fun v => some (Value.int v)) (show ((-1) : Int32) = f1_drawn a b c g by exact ite_eq_of (fun hc => absurd hc (by omega)) (fun _ => rfl)), rfl, fun x hx => rfl, fun x hx => rfl, fun x hx => rfl⟩
        · refine w_iload rfl rfl ?_
          refine w_callSi (As := [_]) (le := [some _]) rfl rfl (Nat.le_of_ble_eq_true rfl) (Nat.le_of_ble_eq_true rfl) rfl ?_
          refine w_iload rfl rfl ?_
          refine w_if_eqZ rfl rfl (fun h5 => ?_) (fun h5 => ?_)
          · obtain rfl : g = 0 := i_is (show g.toInt = 0 by omega) (by decide)
            refine w_pushI rfl ?_
            refine w_goto rfl ?_
            refine w_iret rfl (Or.inr ⟨rfl, by decide⟩) ?_
            show gW _ _ _ _ _ _ _ _ _ _
            refine w_if_ne rfl (fun _ => ?_) (fun h => absurd h (by decide))
            refine w_aload rfl rfl ?_
            refine w_getR (r := 10) rfl rfl (hR _ fmR_0_2) ?_
            refine w_aload rfl rfl ?_
            refine w_getR (r := 37) rfl rfl (hR _ fmR_0_11) ?_
            refine w_iload rfl rfl ?_
            rcases (show a.toInt = 0 ∨ a.toInt = 1 ∨ a.toInt = 2 ∨ a.toInt = 3 ∨ a.toInt = 4 ∨ a.toInt = 5 by omega) with hs7 | hs7 | hs7 | hs7 | hs7 | hs7
            · obtain rfl : a = 0 := i_is hs7 (by decide)
              refine w_aaldv (j := 0) (r := 38) rfl rfl (by decide) (by unfold vp_in; decide) (hR _ fmR_37_0) ?_
              refine w_callVi (As := [_]) (le := [some _, some _, none, none, none]) rfl rfl rfl (Nat.le_of_ble_eq_true rfl) (Nat.le_of_ble_eq_true rfl) rfl ?_
              refine w_aload rfl rfl ?_
              refine w_callVi (As := []) (le := [some _]) rfl rfl rfl (Nat.le_of_ble_eq_true rfl) (Nat.le_of_ble_eq_true rfl) rfl ?_
              refine w_aload rfl rfl ?_
              refine w_getIv (x := 0) rfl rfl (hI _ fmI_38_0) ?_
              refine w_if_ne rfl (fun h => absurd (by decide) h) (fun _ => ?_)
              refine w_pushI rfl ?_
              refine w_iret rfl (Or.inl rfl) ?_
              show gW _ _ _ _ _ _ _ _ _ _
              refine w_istore rfl rfl ?_
              refine w_iload rfl rfl ?_
              refine w_if_ge rfl (fun h => absurd h (by decide)) (fun _ => ?_)
              refine w_iload rfl rfl ?_
              refine w_iret rfl (Or.inl rfl) ?_
              show gW _ _ _ _ _ _ _ _ _ _
              refine w_istore rfl rfl ?_
              refine w_iload rfl rfl ?_
              refine w_if_ge rfl (fun h => absurd h (by decide)) (fun _ => ?_)
              refine w_iload rfl rfl ?_
              refine w_iret rfl (Or.inl rfl) ?_
              exact ⟨congrArg (fun v => some (Value.int v)) (show ((-11) : Int32) = f1_drawn (0) b c (0) by have e0 : (0 : Int32).toInt = 0 := rfl; have e1 : (0 : Int32).toInt = 0 := rfl; exact ite_eq_of (fun _ => rfl) (fun hc => absurd (by omega) hc)), rfl, fun x hx => rfl, fun x hx => rfl, fun x hx => rfl⟩
            · obtain rfl : a = 1 := i_is hs7 (by decide)
              refine w_aaldv (j := 1) (r := 40) rfl rfl (by decide) (by unfold vp_in; decide) (hR _ fmR_37_1) ?_
              refine w_callVi (As := [_]) (le := [some _, some _, none, none, none]) rfl rfl rfl (Nat.le_of_ble_eq_true rfl) (Nat.le_of_ble_eq_true rfl) rfl ?_
              refine w_aload rfl rfl ?_
              refine w_callVi (As := []) (le := [some _]) rfl rfl rfl (Nat.le_of_ble_eq_true rfl) (Nat.le_of_ble_eq_true rfl) rfl ?_
              refine w_aload rfl rfl ?_
              refine w_getIv (x := 0) rfl rfl (hI _ fmI_40_0) ?_
              refine w_if_ne rfl (fun h => absurd (by decide) h) (fun _ => ?_)
              refine w_pushI rfl ?_
              refine w_iret rfl (Or.inl rfl) ?_
              show gW _ _ _ _ _ _ _ _ _ _
              refine w_istore rfl rfl ?_
              refine w_iload rfl rfl ?_
              refine w_if_ge rfl (fun h => absurd h (by decide)) (fun _ => ?_)
              refine w_iload rfl rfl ?_
              refine w_iret rfl (Or.inl rfl) ?_
              show gW _ _ _ _ _ _ _ _ _ _
              refine w_istore rfl rfl ?_
              refine w_iload rfl rfl ?_
              refine w_if_ge rfl (fun h => absurd h (by decide)) (fun _ => ?_)
              refine w_iload rfl rfl ?_
              refine w_iret rfl (Or.inl rfl) ?_
              exact ⟨congrArg (fun v => some (Value.int v)) (show ((-11) : Int32) = f1_drawn (1) b c (0) by have e0 : (1 : Int32).toInt = 1 := rfl; have e1 : (0 : Int32).toInt = 0 := rfl; exact ite_eq_of (fun _ => rfl) (fun hc => absurd (by omega) hc)), rfl, fun x hx => rfl, fun x hx => rfl, fun x hx => rfl⟩
            · obtain rfl : a = 2 := i_is hs7 (by decide)
              refine w_aaldv (j := 2) (r := 42) rfl rfl (by decide) (by unfold vp_in; decide) (hR _ fmR_37_2) ?_
              refine w_callVi (As := [_]) (le := [some _, some _, none, none, none]) rfl rfl rfl (Nat.le_of_ble_eq_true rfl) (Nat.le_of_ble_eq_true rfl) rfl ?_
              refine w_aload rfl rfl ?_
              refine w_callVi (As := []) (le := [some _]) rfl rfl rfl (Nat.le_of_ble_eq_true rfl) (Nat.le_of_ble_eq_true rfl) rfl ?_
              refine w_aload rfl rfl ?_
              refine w_getIv (x := 0) rfl rfl (hI _ fmI_42_0) ?_
              refine w_if_ne rfl (fun h => absurd (by decide) h) (fun _ => ?_)
              refine w_pushI rfl ?_
              refine w_iret rfl (Or.inl rfl) ?_
              show gW _ _ _ _ _ _ _ _ _ _
              refine w_istore rfl rfl ?_
              refine w_iload rfl rfl ?_
              refine w_if_ge rfl (fun h => absurd h (by decide)) (fun _ => ?_)
              refine w_iload rfl rfl ?_
              refine w_iret rfl (Or.inl rfl) ?_
              show gW _ _ _ _ _ _ _ _ _ _
              refine w_istore rfl rfl ?_
              refine w_iload rfl rfl ?_
              refine w_if_ge rfl (fun h => absurd h (by decide)) (fun _ => ?_)
              refine w_iload rfl rfl ?_
              refine w_iret rfl (Or.inl rfl) ?_
              exact ⟨congrArg (fun v => some (Value.int v)) (show ((-11) : Int32) = f1_drawn (2) b c (0) by have e0 : (2 : Int32).toInt = 2 := rfl; have e1 : (0 : Int32).toInt = 0 := rfl; exact ite_eq_of (fun _ => rfl) (fun hc => absurd (by omega) hc)), rfl, fun x hx => rfl, fun x hx => rfl, fun x hx => rfl⟩
            · obtain rfl : a = 3 := i_is hs7 (by decide)
              refine w_aaldv (j := 3) (r := 44) rfl rfl (by decide) (by unfold vp_in; decide) (hR _ fmR_37_3) ?_
              refine w_callVi (As := [_]) (le := [some _, some _, none, none, none]) rfl rfl rfl (Nat.le_of_ble_eq_true rfl) (Nat.le_of_ble_eq_true rfl) rfl ?_
              refine w_aload rfl rfl ?_
              refine w_callVi (As := []) (le := [some _]) rfl rfl rfl (Nat.le_of_ble_eq_true rfl) (Nat.le_of_ble_eq_true rfl) rfl ?_
              refine w_aload rfl rfl ?_
              refine w_getIv (x := 0) rfl rfl (hI _ fmI_44_0) ?_
              refine w_if_ne rfl (fun h => absurd (by decide) h) (fun _ => ?_)
              refine w_pushI rfl ?_
              refine w_iret rfl (Or.inl rfl) ?_
              show gW _ _ _ _ _ _ _ _ _ _
              refine w_istore rfl rfl ?_
              refine w_iload rfl rfl ?_
              refine w_if_ge rfl (fun h => absurd h (by decide)) (fun _ => ?_)
              refine w_iload rfl rfl ?_
              refine w_iret rfl (Or.inl rfl) ?_
              show gW _ _ _ _ _ _ _ _ _ _
              refine w_istore rfl rfl ?_
              refine w_iload rfl rfl ?_
              refine w_if_ge rfl (fun h => absurd h (by decide)) (fun _ => ?_)
              refine w_iload rfl rfl ?_
              refine w_iret rfl (Or.inl rfl) ?_
              exact ⟨congrArg (fun v => some (Value.int v)) (show ((-11) : Int32) = f1_drawn (3) b c (0) by have e0 : (3 : Int32).toInt = 3 := rfl; have e1 : (0 : Int32).toInt = 0 := rfl; exact ite_eq_of (fun _ => rfl) (fun hc => absurd (by omega) hc)), rfl, fun x hx => rfl, fun x hx => rfl, fun x hx => rfl⟩
            · obtain rfl : a = 4 := i_is hs7 (by decide)
              refine w_aaldv (j := 4) (r := 46) rfl rfl (by decide) (by unfold vp_in; decide) (hR _ fmR_37_4) ?_
              refine w_callVi (As := [_]) (le := [some _, some _, none, none, none]) rfl rfl rfl (Nat.le_of_ble_eq_true rfl) (Nat.le_of_ble_eq_true rfl) rfl ?_
              refine w_aload rfl rfl ?_
              refine w_callVi (As := []) (le := [some _]) rfl rfl rfl (Nat.le_of_ble_eq_true rfl) (Nat.le_of_ble_eq_true rfl) rfl ?_
              refine w_aload rfl rfl ?_
              refine w_getIv (x := 0) rfl rfl (hI _ fmI_46_0) ?_
              refine w_if_ne rfl (fun h => absurd (by decide) h) (fun _ => ?_)
              refine w_pushI rfl ?_
              refine w_iret rfl (Or.inl rfl) ?_
              show gW _ _ _ _ _ _ _ _ _ _
              refine w_istore rfl rfl ?_
              refine w_iload rfl rfl ?_
              refine w_if_ge rfl (fun h => absurd h (by decide)) (fun _ => ?_)
              refine w_iload rfl rfl ?_
              refine w_iret rfl (Or.inl rfl) ?_
              show gW _ _ _ _ _ _ _ _ _ _
              refine w_istore rfl rfl ?_
              refine w_iload rfl rfl ?_
              refine w_if_ge rfl (fun h => absurd h (by decide)) (fun _ => ?_)
              refine w_iload rfl rfl ?_
              refine w_iret rfl (Or.inl rfl) ?_
              exact ⟨congrArg (fun v => some (Value.int v)) (show ((-11) : Int32) = f1_drawn (4) b c (0) by have e0 : (4 : Int32).toInt = 4 := rfl; have e1 : (0 : Int32).toInt = 0 := rfl; exact ite_eq_of (fun _ => rfl) (fun hc => absurd (by omega) hc)), rfl, fun x hx => rfl, fun x hx => rfl, fun x hx => rfl⟩
            · obtain rfl : a = 5 := i_is hs7 (by decide)
              refine w_aaldv (j := 5) (r := 48) rfl rfl (by decide) (by unfold vp_in; decide) (hR _ fmR_37_5) ?_
              refine w_callVi (As := [_]) (le := [some _, some _, none, none, none]) rfl rfl rfl (Nat.le_of_ble_eq_true rfl) (Nat.le_of_ble_eq_true rfl) rfl ?_
              refine w_aload rfl rfl ?_
              refine w_callVi (As := []) (le := [some _]) rfl rfl rfl (Nat.le_of_ble_eq_true rfl) (Nat.le_of_ble_eq_true rfl) rfl ?_
              refine w_aload rfl rfl ?_
              refine w_getIv (x := 0) rfl rfl (hI _ fmI_48_0) ?_
              refine w_if_ne rfl (fun h => absurd (by decide) h) (fun _ => ?_)
              refine w_pushI rfl ?_
              refine w_iret rfl (Or.inl rfl) ?_
              show gW _ _ _ _ _ _ _ _ _ _
              refine w_istore rfl rfl ?_
              refine w_iload rfl rfl ?_
              refine w_if_ge rfl (fun h => absurd h (by decide)) (fun _ => ?_)
              refine w_iload rfl rfl ?_
              refine w_iret rfl (Or.inl rfl) ?_
              show gW _ _ _ _ _ _ _ _ _ _
              refine w_istore rfl rfl ?_
              refine w_iload rfl rfl ?_
              refine w_if_ge rfl (fun h => absurd h (by decide)) (fun _ => ?_)
              refine w_iload rfl rfl ?_
              refine w_iret rfl (Or.inl rfl) ?_
              exact ⟨congrArg (fun v => some (Value.int v)) (show ((-11) : Int32) = f1_drawn (5) b c (0) by have e0 : (5 : Int32).toInt = 5 := rfl; have e1 : (0 : Int32).toInt = 0 := rfl; exact ite_eq_of (fun _ => rfl) (fun hc => absurd (by omega) hc)), rfl, fun x hx => rfl, fun x hx => rfl, fun x hx => rfl⟩
          · refine w_iload rfl rfl ?_
            refine w_pushI rfl ?_
            refine w_icmp_neZ (b := 1) rfl rfl (by decide) (fun h6 => ?_) (fun h6 => ?_)
            · refine w_pushI rfl ?_
              refine w_iret rfl (Or.inr ⟨rfl, by decide⟩) ?_
              show gW _ _ _ _ _ _ _ _ _ _
              refine w_if_ne rfl (fun h => absurd (by decide) h) (fun _ => ?_)
              refine w_pushI rfl ?_
              refine w_iret rfl (Or.inl rfl) ?_
              exact ⟨congrArg (fun v => some (Value.int v)) (show ((-1) : Int32) = f1_drawn a b c g by exact ite_eq_of (fun hc => (by exfalso; omega)) (fun hc => rfl)), rfl, fun x hx => rfl, fun x hx => rfl, fun x hx => rfl⟩
            · obtain rfl : g = 1 := i_is (show g.toInt = 1 by omega) (by decide)
              refine w_pushI rfl ?_
              refine w_goto rfl ?_
              refine w_iret rfl (Or.inr ⟨rfl, by decide⟩) ?_
              show gW _ _ _ _ _ _ _ _ _ _
              refine w_if_ne rfl (fun _ => ?_) (fun h => absurd h (by decide))
              refine w_aload rfl rfl ?_
              refine w_getR (r := 10) rfl rfl (hR _ fmR_0_2) ?_
              refine w_aload rfl rfl ?_
              refine w_getR (r := 37) rfl rfl (hR _ fmR_0_11) ?_
              refine w_iload rfl rfl ?_
              rcases (show a.toInt = 0 ∨ a.toInt = 1 ∨ a.toInt = 2 ∨ a.toInt = 3 ∨ a.toInt = 4 ∨ a.toInt = 5 by omega) with hs8 | hs8 | hs8 | hs8 | hs8 | hs8
              · obtain rfl : a = 0 := i_is hs8 (by decide)
                refine w_aaldv (j := 0) (r := 38) rfl rfl (by decide) (by unfold vp_in; decide) (hR _ fmR_37_0) ?_
                refine w_callVi (As := [_]) (le := [some _, some _, none, none, none]) rfl rfl rfl (Nat.le_of_ble_eq_true rfl) (Nat.le_of_ble_eq_true rfl) rfl ?_
                refine w_aload rfl rfl ?_
                refine w_callVi (As := []) (le := [some _]) rfl rfl rfl (Nat.le_of_ble_eq_true rfl) (Nat.le_of_ble_eq_true rfl) rfl ?_
                refine w_aload rfl rfl ?_
                refine w_getIv (x := 0) rfl rfl (hI _ fmI_38_0) ?_
                refine w_if_ne rfl (fun h => absurd (by decide) h) (fun _ => ?_)
                refine w_pushI rfl ?_
                refine w_iret rfl (Or.inl rfl) ?_
                show gW _ _ _ _ _ _ _ _ _ _
                refine w_istore rfl rfl ?_
                refine w_iload rfl rfl ?_
                refine w_if_ge rfl (fun h => absurd h (by decide)) (fun _ => ?_)
                refine w_iload rfl rfl ?_
                refine w_iret rfl (Or.inl rfl) ?_
                show gW _ _ _ _ _ _ _ _ _ _
                refine w_istore rfl rfl ?_
                refine w_iload rfl rfl ?_
                refine w_if_ge rfl (fun h => absurd h (by decide)) (fun _ => ?_)
                refine w_iload rfl rfl ?_
                refine w_iret rfl (Or.inl rfl) ?_
                exact ⟨congrArg (fun v => some (Value.int v)) (show ((-11) : Int32) = f1_drawn (0) b c (1) by have e0 : (0 : Int32).toInt = 0 := rfl; have e1 : (1 : Int32).toInt = 1 := rfl; exact ite_eq_of (fun _ => rfl) (fun hc => absurd (by omega) hc)), rfl, fun x hx => rfl, fun x hx => rfl, fun x hx => rfl⟩
              · obtain rfl : a = 1 := i_is hs8 (by decide)
                refine w_aaldv (j := 1) (r := 40) rfl rfl (by decide) (by unfold vp_in; decide) (hR _ fmR_37_1) ?_
                refine w_callVi (As := [_]) (le := [some _, some _, none, none, none]) rfl rfl rfl (Nat.le_of_ble_eq_true rfl) (Nat.le_of_ble_eq_true rfl) rfl ?_
                refine w_aload rfl rfl ?_
                refine w_callVi (As := []) (le := [some _]) rfl rfl rfl (Nat.le_of_ble_eq_true rfl) (Nat.le_of_ble_eq_true rfl) rfl ?_
                refine w_aload rfl rfl ?_
                refine w_getIv (x := 0) rfl rfl (hI _ fmI_40_0) ?_
                refine w_if_ne rfl (fun h => absurd (by decide) h) (fun _ => ?_)
                refine w_pushI rfl ?_
                refine w_iret rfl (Or.inl rfl) ?_
                show gW _ _ _ _ _ _ _ _ _ _
                refine w_istore rfl rfl ?_
                refine w_iload rfl rfl ?_
                refine w_if_ge rfl (fun h => absurd h (by decide)) (fun _ => ?_)
                refine w_iload rfl rfl ?_
                refine w_iret rfl (Or.inl rfl) ?_
                show gW _ _ _ _ _ _ _ _ _ _
                refine w_istore rfl rfl ?_
                refine w_iload rfl rfl ?_
                refine w_if_ge rfl (fun h => absurd h (by decide)) (fun _ => ?_)
                refine w_iload rfl rfl ?_
                refine w_iret rfl (Or.inl rfl) ?_
                exact ⟨congrArg (fun v => some (Value.int v)) (show ((-11) : Int32) = f1_drawn (1) b c (1) by have e0 : (1 : Int32).toInt = 1 := rfl; have e1 : (1 : Int32).toInt = 1 := rfl; exact ite_eq_of (fun _ => rfl) (fun hc => absurd (by omega) hc)), rfl, fun x hx => rfl, fun x hx => rfl, fun x hx => rfl⟩
              · obtain rfl : a = 2 := i_is hs8 (by decide)
                refine w_aaldv (j := 2) (r := 42) rfl rfl (by decide) (by unfold vp_in; decide) (hR _ fmR_37_2) ?_
                refine w_callVi (As := [_]) (le := [some _, some _, none, none, none]) rfl rfl rfl (Nat.le_of_ble_eq_true rfl) (Nat.le_of_ble_eq_true rfl) rfl ?_
                refine w_aload rfl rfl ?_
                refine w_callVi (As := []) (le := [some _]) rfl rfl rfl (Nat.le_of_ble_eq_true rfl) (Nat.le_of_ble_eq_true rfl) rfl ?_
                refine w_aload rfl rfl ?_
                refine w_getIv (x := 0) rfl rfl (hI _ fmI_42_0) ?_
                refine w_if_ne rfl (fun h => absurd (by decide) h) (fun _ => ?_)
                refine w_pushI rfl ?_
                refine w_iret rfl (Or.inl rfl) ?_
                show gW _ _ _ _ _ _ _ _ _ _
                refine w_istore rfl rfl ?_
                refine w_iload rfl rfl ?_
                refine w_if_ge rfl (fun h => absurd h (by decide)) (fun _ => ?_)
                refine w_iload rfl rfl ?_
                refine w_iret rfl (Or.inl rfl) ?_
                show gW _ _ _ _ _ _ _ _ _ _
                refine w_istore rfl rfl ?_
                refine w_iload rfl rfl ?_
                refine w_if_ge rfl (fun h => absurd h (by decide)) (fun _ => ?_)
                refine w_iload rfl rfl ?_
                refine w_iret rfl (Or.inl rfl) ?_
                exact ⟨congrArg (fun v => some (Value.int v)) (show ((-11) : Int32) = f1_drawn (2) b c (1) by have e0 : (2 : Int32).toInt = 2 := rfl; have e1 : (1 : Int32).toInt = 1 := rfl; exact ite_eq_of (fun _ => rfl) (fun hc => absurd (by omega) hc)), rfl, fun x hx => rfl, fun x hx => rfl, fun x hx => rfl⟩
              · obtain rfl : a = 3 := i_is hs8 (by decide)
                refine w_aaldv (j := 3) (r := 44) rfl rfl (by decide) (by unfold vp_in; decide) (hR _ fmR_37_3) ?_
                refine w_callVi (As := [_]) (le := [some _, some _, none, none, none]) rfl rfl rfl (Nat.le_of_ble_eq_true rfl) (Nat.le_of_ble_eq_true rfl) rfl ?_
                refine w_aload rfl rfl ?_
                refine w_callVi (As := []) (le := [some _]) rfl rfl rfl (Nat.le_of_ble_eq_true rfl) (Nat.le_of_ble_eq_true rfl) rfl ?_
                refine w_aload rfl rfl ?_
                refine w_getIv (x := 0) rfl rfl (hI _ fmI_44_0) ?_
                refine w_if_ne rfl (fun h => absurd (by decide) h) (fun _ => ?_)
                refine w_pushI rfl ?_
                refine w_iret rfl (Or.inl rfl) ?_
                show gW _ _ _ _ _ _ _ _ _ _
                refine w_istore rfl rfl ?_
                refine w_iload rfl rfl ?_
                refine w_if_ge rfl (fun h => absurd h (by decide)) (fun _ => ?_)
                refine w_iload rfl rfl ?_
                refine w_iret rfl (Or.inl rfl) ?_
                show gW _ _ _ _ _ _ _ _ _ _
                refine w_istore rfl rfl ?_
                refine w_iload rfl rfl ?_
                refine w_if_ge rfl (fun h => absurd h (by decide)) (fun _ => ?_)
                refine w_iload rfl rfl ?_
                refine w_iret rfl (Or.inl rfl) ?_
                exact ⟨congrArg (fun v => some (Value.int v)) (show ((-11) : Int32) = f1_drawn (3) b c (1) by have e0 : (3 : Int32).toInt = 3 := rfl; have e1 : (1 : Int32).toInt = 1 := rfl; exact ite_eq_of (fun _ => rfl) (fun hc => absurd (by omega) hc)), rfl, fun x hx => rfl, fun x hx => rfl, fun x hx => rfl⟩
              · obtain rfl : a = 4 := i_is hs8 (by decide)
                refine w_aaldv (j := 4) (r := 46) rfl rfl (by decide) (by unfold vp_in; decide) (hR _ fmR_37_4) ?_
                refine w_callVi (As := [_]) (le := [some _, some _, none, none, none]) rfl rfl rfl (Nat.le_of_ble_eq_true rfl) (Nat.le_of_ble_eq_true rfl) rfl ?_
                refine w_aload rfl rfl ?_
                refine w_callVi (As := []) (le := [some _]) rfl rfl rfl (Nat.le_of_ble_eq_true rfl) (Nat.le_of_ble_eq_true rfl) rfl ?_
                refine w_aload rfl rfl ?_
                refine w_getIv (x := 0) rfl rfl (hI _ fmI_46_0) ?_
                refine w_if_ne rfl (fun h => absurd (by decide) h) (fun _ => ?_)
                refine w_pushI rfl ?_
                refine w_iret rfl (Or.inl rfl) ?_
                show gW _ _ _ _ _ _ _ _ _ _
                refine w_istore rfl rfl ?_
                refine w_iload rfl rfl ?_
                refine w_if_ge rfl (fun h => absurd h (by decide)) (fun _ => ?_)
                refine w_iload rfl rfl ?_
                refine w_iret rfl (Or.inl rfl) ?_
                show gW _ _ _ _ _ _ _ _ _ _
                refine w_istore rfl rfl ?_
                refine w_iload rfl rfl ?_
                refine w_if_ge rfl (fun h => absurd h (by decide)) (fun _ => ?_)
                refine w_iload rfl rfl ?_
                refine w_iret rfl (Or.inl rfl) ?_
                exact ⟨congrArg (fun v => some (Value.int v)) (show ((-11) : Int32) = f1_drawn (4) b c (1) by have e0 : (4 : Int32).toInt = 4 := rfl; have e1 : (1 : Int32).toInt = 1 := rfl; exact ite_eq_of (fun _ => rfl) (fun hc => absurd (by omega) hc)), rfl, fun x hx => rfl, fun x hx => rfl, fun x hx => rfl⟩
              · obtain rfl : a = 5 := i_is hs8 (by decide)
                refine w_aaldv (j := 5) (r := 48) rfl rfl (by decide) (by unfold vp_in; decide) (hR _ fmR_37_5) ?_
                refine w_callVi (As := [_]) (le := [some _, some _, none, none, none]) rfl rfl rfl (Nat.le_of_ble_eq_true rfl) (Nat.le_of_ble_eq_true rfl) rfl ?_
                refine w_aload rfl rfl ?_
                refine w_callVi (As := []) (le := [some _]) rfl rfl rfl (Nat.le_of_ble_eq_true rfl) (Nat.le_of_ble_eq_true rfl) rfl ?_
                refine w_aload rfl rfl ?_
                refine w_getIv (x := 0) rfl rfl (hI _ fmI_48_0) ?_
                refine w_if_ne rfl (fun h => absurd (by decide) h) (fun _ => ?_)
                refine w_pushI rfl ?_
                refine w_iret rfl (Or.inl rfl) ?_
                show gW _ _ _ _ _ _ _ _ _ _
                refine w_istore rfl rfl ?_
                refine w_iload rfl rfl ?_
                refine w_if_ge rfl (fun h => absurd h (by decide)) (fun _ => ?_)
                refine w_iload rfl rfl ?_
                refine w_iret rfl (Or.inl rfl) ?_
                show gW _ _ _ _ _ _ _ _ _ _
                refine w_istore rfl rfl ?_
                refine w_iload rfl rfl ?_
                refine w_if_ge rfl (fun h => absurd h (by decide)) (fun _ => ?_)
                refine w_iload rfl rfl ?_
                refine w_iret rfl (Or.inl rfl) ?_
                exact ⟨congrArg (fun v => some (Value.int v)) (show ((-11) : Int32) = f1_drawn (5) b c (1) by have e0 : (5 : Int32).toInt = 5 := rfl; have e1 : (1 : Int32).toInt = 1 := rfl; exact ite_eq_of (fun _ => rfl) (fun hc => absurd (by omega) hc)), rfl, fun x hx => rfl, fun x hx => rfl, fun x hx => rfl⟩
set_option maxHeartbeats 40000000 in
set_option maxRecDepth 100000 in
theorem a2_drawn {X : Nat × (Nat → Int32)} {d : Nat} {I : Nat → Nat → Int32} {L : Nat → Nat → Int64} {R : Nat → Nat → Option Nat} (hI : ∀ q ∈ gFlI, 50 ≤ q.1 → I q.1 q.2.1 = q.2.2) (hL : ∀ q ∈ gFlL, 50 ≤ q.1 → L q.1 q.2.1 = q.2.2) (hR : ∀ q ∈ gFlR, 50 ≤ q.1 → R q.1 q.2.1 = some q.2.2) (a : Int32) (b : Int32) (c : Int32) (g : Int32) : gW X (d + 12) 221 0 0 0 (gEn 221 [.ref 50, .int a, .int b, .int c, .int g]) [] (gK 87, I, L, R) (fun r _ => r = some (.int (f1_drawn a b c g))) := by
  show gW _ _ _ _ _ _ [some (.ref 50), some (.int a), some (.int b), some (.int c), some (.int g), none, none, none, none, none, none] _ _ _
  refine w_iload rfl rfl ?_
  refine w_callSi (As := [_]) (le := [some _]) rfl rfl (Nat.le_of_ble_eq_true rfl) (Nat.le_of_ble_eq_true rfl) rfl ?_
  refine w_iload rfl rfl ?_
  refine w_pushI rfl ?_
  refine w_pushI rfl ?_
  refine w_callSi (As := [_, _, _]) (le := [some _, some _, some _]) rfl rfl (Nat.le_of_ble_eq_true rfl) (Nat.le_of_ble_eq_true rfl) rfl ?_
  refine w_iload rfl rfl ?_
  refine w_iload rfl rfl ?_
  refine w_icmp_ltZ (b := 0) rfl rfl (by decide) (fun h1 => ?_) (fun h1 => ?_)
  · refine w_pushI rfl ?_
    refine w_iret rfl (Or.inr ⟨rfl, by decide⟩) ?_
    show gW _ _ _ _ _ _ _ _ _ _
    refine w_iret rfl (Or.inr ⟨rfl, by decide⟩) ?_
    show gW _ _ _ _ _ _ _ _ _ _
    refine w_if_eq rfl (fun _ => ?_) (fun h => absurd (by decide) h)
    refine w_pushI rfl ?_
    refine w_iret rfl (Or.inl rfl) ?_
    exact congrArg (fun v => some (Value.int v)) (show ((-1) : Int32) = f1_drawn a b c g by exact ite_eq_of (fun hc => absurd hc (by omega)) (fun _ => rfl))
  · refine w_iload rfl rfl ?_
    refine w_iload rfl rfl ?_
    refine w_icmp_gtZ (b := 5) rfl rfl (by decide) (fun h2 => ?_) (fun h2 => ?_)
    · refine w_pushI rfl ?_
      refine w_iret rfl (Or.inr ⟨rfl, by decide⟩) ?_
      show gW _ _ _ _ _ _ _ _ _ _
      refine w_iret rfl (Or.inr ⟨rfl, by decide⟩) ?_
      show gW _ _ _ _ _ _ _ _ _ _
      refine w_if_eq rfl (fun _ => ?_) (fun h => absurd (by decide) h)
      refine w_pushI rfl ?_
      refine w_iret rfl (Or.inl rfl) ?_
      exact congrArg (fun v => some (Value.int v)) (show ((-1) : Int32) = f1_drawn a b c g by exact ite_eq_of (fun hc => absurd hc (by omega)) (fun _ => rfl))
    · refine w_pushI rfl ?_
      refine w_goto rfl ?_
      refine w_iret rfl (Or.inr ⟨rfl, by decide⟩) ?_
      show gW _ _ _ _ _ _ _ _ _ _
      refine w_iret rfl (Or.inr ⟨rfl, by decide⟩) ?_
      show gW _ _ _ _ _ _ _ _ _ _
      refine w_if_eq rfl (fun h => absurd h (by decide)) (fun _ => ?_)
      refine w_iload rfl rfl ?_
      refine w_pushI rfl ?_
      refine w_pushI rfl ?_
      refine w_callSi (As := [_, _, _]) (le := [some _, some _, some _]) rfl rfl (Nat.le_of_ble_eq_true rfl) (Nat.le_of_ble_eq_true rfl) rfl ?_
      refine w_iload rfl rfl ?_
      refine w_iload rfl rfl ?_
      refine w_icmp_ltZ (b := 1) rfl rfl (by decide) (fun h3 => ?_) (fun h3 => ?_)
      · refine w_pushI rfl ?_
        refine w_iret rfl (Or.inr ⟨rfl, by decide⟩) ?_
        show gW _ _ _ _ _ _ _ _ _ _
        refine w_if_eq rfl (fun _ => ?_) (fun h => absurd (by decide) h)
        refine w_pushI rfl ?_
        refine w_iret rfl (Or.inl rfl) ?_
        exact congrArg (fun v => some (Value.int v)) (show ((-1) : Int32) = f1_drawn a b c g by exact ite_eq_of (fun hc => absurd hc (by omega)) (fun _ => rfl))
      · refine w_iload rfl rfl ?_
        refine w_iload rfl rfl ?_
        refine w_icmp_gtZ (b := 30) rfl rfl (by decide) (fun h4 => ?_) (fun h4 => ?_)
        · refine w_pushI rfl ?_
          refine w_iret rfl (Or.inr ⟨rfl, by decide⟩) ?_
          show gW _ _ _ _ _ _ _ _ _ _
          refine w_if_eq rfl (fun _ => ?_) (fun h => absurd (by decide) h)
          refine w_pushI rfl ?_
          refine w_iret rfl (Or.inl rfl) ?_
          exact congrArg (fun v => some (Value.int v)) (show ((-1) : Int32) = f1_drawn a b c g by exact ite_eq_of (fun hc => absurd hc (by omega)) (fun _ => rfl))
        · refine w_pushI rfl ?_
          refine w_goto rfl ?_
          refine w_iret rfl (Or.inr ⟨rfl, by decide⟩) ?_
          show gW _ _ _ _ _ _ _ _ _ _
          refine w_if_eq rfl (fun h => absurd h (by decide)) (fun _ => ?_)
          refine w_iload rfl rfl ?_
          refine w_pushI rfl ?_
          refine w_pushI rfl ?_
          refine w_callSi (As := [_, _, _]) (le := [some _, some _, some _]) rfl rfl (Nat.le_of_ble_eq_true rfl) (Nat.le_of_ble_eq_true rfl) rfl ?_
          refine w_iload rfl rfl ?_
          refine w_iload rfl rfl ?_
          refine w_icmp_ltZ (b := 0) rfl rfl (by decide) (fun h5 => ?_) (fun h5 => ?_)
          · refine w_pushI rfl ?_
            refine w_iret rfl (Or.inr ⟨rfl, by decide⟩) ?_
            show gW _ _ _ _ _ _ _ _ _ _
            refine w_if_ne rfl (fun h => absurd (by decide) h) (fun _ => ?_)
            refine w_pushI rfl ?_
            refine w_iret rfl (Or.inl rfl) ?_
            exact congrArg (fun v => some (Value.int v)) (show ((-1) : Int32) = f1_drawn a b c g by exact ite_eq_of (fun hc => absurd hc (by omega)) (fun _ => rfl))
          · refine w_iload rfl rfl ?_
            refine w_iload rfl rfl ?_
            refine w_icmp_gtZ (b := 1) rfl rfl (by decide) (fun h6 => ?_) (fun h6 => ?_)
            · refine w_pushI rfl ?_
              refine w_iret rfl (Or.inr ⟨rfl, by decide⟩) ?_
              show gW _ _ _ _ _ _ _ _ _ _
              refine w_if_ne rfl (fun h => absurd (by decide) h) (fun _ => ?_)
              refine w_pushI rfl ?_
              refine w_iret rfl (Or.inl rfl) ?_
              exact congrArg (fun v => some (Value.int v)) (show ((-1) : Int32) = f1_drawn a b c g by exact ite_eq_of (fun hc => absurd hc (by omega)) (fun _ => rfl))
            · refine w_pushI rfl ?_
              refine w_goto rfl ?_
              refine w_iret rfl (Or.inr ⟨rfl, by decide⟩) ?_
              show gW _ _ _ _ _ _ _ _ _ _
              refine w_if_ne rfl (fun _ => ?_) (fun h => absurd h (by decide))
              refine w_aload rfl rfl ?_
              refine w_iload rfl rfl ?_
              refine w_callVi (As := [_]) (le := [some _, some _]) rfl rfl rfl (Nat.le_of_ble_eq_true rfl) (Nat.le_of_ble_eq_true rfl) rfl ?_
              refine w_aload rfl rfl ?_
              refine w_getR (r := 83) rfl rfl (hR _ fmR_50_58 (by decide)) ?_
              refine w_iload rfl rfl ?_
              rcases (show a.toInt = 0 ∨ a.toInt = 1 ∨ a.toInt = 2 ∨ a.toInt = 3 ∨ a.toInt = 4 ∨ a.toInt = 5 by omega) with hs7 | hs7 | hs7 | hs7 | hs7 | hs7
              · obtain rfl : a = 0 := i_is hs7 (by decide)
                refine w_ialdv (j := 0) (x := (-1)) rfl rfl (by decide) (by unfold vp_in; decide) (hI _ fmI_83_0 (by decide)) ?_
                refine w_pushI rfl ?_
                refine w_icmp_ne rfl (fun h => absurd (by decide) h) (fun _ => ?_)
                refine w_pushI rfl ?_
                refine w_goto rfl ?_
                refine w_iret rfl (Or.inl rfl) ?_
                show gW _ _ _ _ _ _ _ _ _ _
                refine w_if_ge rfl (fun h => absurd h (by decide)) (fun _ => ?_)
                refine w_aload rfl rfl ?_
                refine w_iload rfl rfl ?_
                refine w_topv (z := 0) (by decide) ?_
                refine w_callVi (As := [_]) (le := [some _, some _]) rfl rfl rfl (Nat.le_of_ble_eq_true rfl) (Nat.le_of_ble_eq_true rfl) rfl ?_
                refine w_aload rfl rfl ?_
                refine w_getR (r := 83) rfl rfl (hR _ fmR_50_58 (by decide)) ?_
                refine w_iload rfl rfl ?_
                refine w_ialdv (j := 0) (x := (-1)) rfl rfl (by decide) (by unfold vp_in; decide) (hI _ fmI_83_0 (by decide)) ?_
                refine w_pushI rfl ?_
                refine w_icmp_ne rfl (fun h => absurd (by decide) h) (fun _ => ?_)
                refine w_pushI rfl ?_
                refine w_goto rfl ?_
                refine w_iret rfl (Or.inl rfl) ?_
                show gW _ _ _ _ _ _ _ _ _ _
                refine w_iret rfl (Or.inl rfl) ?_
                exact congrArg (fun v => some (Value.int v)) (show ((-11) : Int32) = f1_drawn (0) b c g by have e0 : (0 : Int32).toInt = 0 := rfl; exact ite_eq_of (fun _ => rfl) (fun hc => absurd (by omega) hc))
              · obtain rfl : a = 1 := i_is hs7 (by decide)
                refine w_ialdv (j := 1) (x := (-1)) rfl rfl (by decide) (by unfold vp_in; decide) (hI _ fmI_83_1 (by decide)) ?_
                refine w_pushI rfl ?_
                refine w_icmp_ne rfl (fun h => absurd (by decide) h) (fun _ => ?_)
                refine w_pushI rfl ?_
                refine w_goto rfl ?_
                refine w_iret rfl (Or.inl rfl) ?_
                show gW _ _ _ _ _ _ _ _ _ _
                refine w_if_ge rfl (fun h => absurd h (by decide)) (fun _ => ?_)
                refine w_aload rfl rfl ?_
                refine w_iload rfl rfl ?_
                refine w_topv (z := 1) (by decide) ?_
                refine w_callVi (As := [_]) (le := [some _, some _]) rfl rfl rfl (Nat.le_of_ble_eq_true rfl) (Nat.le_of_ble_eq_true rfl) rfl ?_
                refine w_aload rfl rfl ?_
                refine w_getR (r := 83) rfl rfl (hR _ fmR_50_58 (by decide)) ?_
                refine w_iload rfl rfl ?_
                refine w_ialdv (j := 1) (x := (-1)) rfl rfl (by decide) (by unfold vp_in; decide) (hI _ fmI_83_1 (by decide)) ?_
                refine w_pushI rfl ?_
                refine w_icmp_ne rfl (fun h => absurd (by decide) h) (fun _ => ?_)
                refine w_pushI rfl ?_
                refine w_goto rfl ?_
                refine w_iret rfl (Or.inl rfl) ?_
                show gW _ _ _ _ _ _ _ _ _ _
                refine w_iret rfl (Or.inl rfl) ?_
                exact congrArg (fun v => some (Value.int v)) (show ((-11) : Int32) = f1_drawn (1) b c g by have e0 : (1 : Int32).toInt = 1 := rfl; exact ite_eq_of (fun _ => rfl) (fun hc => absurd (by omega) hc))
              · obtain rfl : a = 2 := i_is hs7 (by decide)
                refine w_ialdv (j := 2) (x := (-1)) rfl rfl (by decide) (by unfold vp_in; decide) (hI _ fmI_83_2 (by decide)) ?_
                refine w_pushI rfl ?_
                refine w_icmp_ne rfl (fun h => absurd (by decide) h) (fun _ => ?_)
                refine w_pushI rfl ?_
                refine w_goto rfl ?_
                refine w_iret rfl (Or.inl rfl) ?_
                show gW _ _ _ _ _ _ _ _ _ _
                refine w_if_ge rfl (fun h => absurd h (by decide)) (fun _ => ?_)
                refine w_aload rfl rfl ?_
                refine w_iload rfl rfl ?_
                refine w_topv (z := 2) (by decide) ?_
                refine w_callVi (As := [_]) (le := [some _, some _]) rfl rfl rfl (Nat.le_of_ble_eq_true rfl) (Nat.le_of_ble_eq_true rfl) rfl ?_
                refine w_aload rfl rfl ?_
                refine w_getR (r := 83) rfl rfl (hR _ fmR_50_58 (by decide)) ?_
                refine w_iload rfl rfl ?_
                refine w_ialdv (j := 2) (x := (-1)) rfl rfl (by decide) (by unfold vp_in; decide) (hI _ fmI_83_2 (by decide)) ?_
                refine w_pushI rfl ?_
                refine w_icmp_ne rfl (fun h => absurd (by decide) h) (fun _ => ?_)
                refine w_pushI rfl ?_
                refine w_goto rfl ?_
                refine w_iret rfl (Or.inl rfl) ?_
                show gW _ _ _ _ _ _ _ _ _ _
                refine w_iret rfl (Or.inl rfl) ?_
                exact congrArg (fun v => some (Value.int v)) (show ((-11) : Int32) = f1_drawn (2) b c g by have e0 : (2 : Int32).toInt = 2 := rfl; exact ite_eq_of (fun _ => rfl) (fun hc => absurd (by omega) hc))
              · obtain rfl : a = 3 := i_is hs7 (by decide)
                refine w_ialdv (j := 3) (x := (-1)) rfl rfl (by decide) (by unfold vp_in; decide) (hI _ fmI_83_3 (by decide)) ?_
                refine w_pushI rfl ?_
                refine w_icmp_ne rfl (fun h => absurd (by decide) h) (fun _ => ?_)
                refine w_pushI rfl ?_
                refine w_goto rfl ?_
                refine w_iret rfl (Or.inl rfl) ?_
                show gW _ _ _ _ _ _ _ _ _ _
                refine w_if_ge rfl (fun h => absurd h (by decide)) (fun _ => ?_)
                refine w_aload rfl rfl ?_
                refine w_iload rfl rfl ?_
                refine w_topv (z := 3) (by decide) ?_
                refine w_callVi (As := [_]) (le := [some _, some _]) rfl rfl rfl (Nat.le_of_ble_eq_true rfl) (Nat.le_of_ble_eq_true rfl) rfl ?_
                refine w_aload rfl rfl ?_
                refine w_getR (r := 83) rfl rfl (hR _ fmR_50_58 (by decide)) ?_
                refine w_iload rfl rfl ?_
                refine w_ialdv (j := 3) (x := (-1)) rfl rfl (by decide) (by unfold vp_in; decide) (hI _ fmI_83_3 (by decide)) ?_
                refine w_pushI rfl ?_
                refine w_icmp_ne rfl (fun h => absurd (by decide) h) (fun _ => ?_)
                refine w_pushI rfl ?_
                refine w_goto rfl ?_
                refine w_iret rfl (Or.inl rfl) ?_
                show gW _ _ _ _ _ _ _ _ _ _
                refine w_iret rfl (Or.inl rfl) ?_
                exact congrArg (fun v => some (Value.int v)) (show ((-11) : Int32) = f1_drawn (3) b c g by have e0 : (3 : Int32).toInt = 3 := rfl; exact ite_eq_of (fun _ => rfl) (fun hc => absurd (by omega) hc))
              · obtain rfl : a = 4 := i_is hs7 (by decide)
                refine w_ialdv (j := 4) (x := (-1)) rfl rfl (by decide) (by unfold vp_in; decide) (hI _ fmI_83_4 (by decide)) ?_
                refine w_pushI rfl ?_
                refine w_icmp_ne rfl (fun h => absurd (by decide) h) (fun _ => ?_)
                refine w_pushI rfl ?_
                refine w_goto rfl ?_
                refine w_iret rfl (Or.inl rfl) ?_
                show gW _ _ _ _ _ _ _ _ _ _
                refine w_if_ge rfl (fun h => absurd h (by decide)) (fun _ => ?_)
                refine w_aload rfl rfl ?_
                refine w_iload rfl rfl ?_
                refine w_topv (z := 4) (by decide) ?_
                refine w_callVi (As := [_]) (le := [some _, some _]) rfl rfl rfl (Nat.le_of_ble_eq_true rfl) (Nat.le_of_ble_eq_true rfl) rfl ?_
                refine w_aload rfl rfl ?_
                refine w_getR (r := 83) rfl rfl (hR _ fmR_50_58 (by decide)) ?_
                refine w_iload rfl rfl ?_
                refine w_ialdv (j := 4) (x := (-1)) rfl rfl (by decide) (by unfold vp_in; decide) (hI _ fmI_83_4 (by decide)) ?_
                refine w_pushI rfl ?_
                refine w_icmp_ne rfl (fun h => absurd (by decide) h) (fun _ => ?_)
                refine w_pushI rfl ?_
                refine w_goto rfl ?_
                refine w_iret rfl (Or.inl rfl) ?_
                show gW _ _ _ _ _ _ _ _ _ _
                refine w_iret rfl (Or.inl rfl) ?_
                exact congrArg (fun v => some (Value.int v)) (show ((-11) : Int32) = f1_drawn (4) b c g by have e0 : (4 : Int32).toInt = 4 := rfl; exact ite_eq_of (fun _ => rfl) (fun hc => absurd (by omega) hc))
              · obtain rfl : a = 5 := i_is hs7 (by decide)
                refine w_ialdv (j := 5) (x := (-1)) rfl rfl (by decide) (by unfold vp_in; decide) (hI _ fmI_83_5 (by decide)) ?_
                refine w_pushI rfl ?_
                refine w_icmp_ne rfl (fun h => absurd (by decide) h) (fun _ => ?_)
                refine w_pushI rfl ?_
                refine w_goto rfl ?_
                refine w_iret rfl (Or.inl rfl) ?_
                show gW _ _ _ _ _ _ _ _ _ _
                refine w_if_ge rfl (fun h => absurd h (by decide)) (fun _ => ?_)
                refine w_aload rfl rfl ?_
                refine w_iload rfl rfl ?_
                refine w_topv (z := 5) (by decide) ?_
                refine w_callVi (As := [_]) (le := [some _, some _]) rfl rfl rfl (Nat.le_of_ble_eq_true rfl) (Nat.le_of_ble_eq_true rfl) rfl ?_
                refine w_aload rfl rfl ?_
                refine w_getR (r := 83) rfl rfl (hR _ fmR_50_58 (by decide)) ?_
                refine w_iload rfl rfl ?_
                refine w_ialdv (j := 5) (x := (-1)) rfl rfl (by decide) (by unfold vp_in; decide) (hI _ fmI_83_5 (by decide)) ?_
                refine w_pushI rfl ?_
                refine w_icmp_ne rfl (fun h => absurd (by decide) h) (fun _ => ?_)
                refine w_pushI rfl ?_
                refine w_goto rfl ?_
                refine w_iret rfl (Or.inl rfl) ?_
                show gW _ _ _ _ _ _ _ _ _ _
                refine w_iret rfl (Or.inl rfl) ?_
                exact congrArg (fun v => some (Value.int v)) (show ((-11) : Int32) = f1_drawn (5) b c g by have e0 : (5 : Int32).toInt = 5 := rfl; exact ite_eq_of (fun _ => rfl) (fun hc => absurd (by omega) hc))
set_option maxHeartbeats 40000000 in
set_option maxRecDepth 100000 in
theorem a1_go {X : Nat × (Nat → Int32)} {d : Nat} {I : Nat → Nat → Int32} {L : Nat → Nat → Int64} {R : Nat → Nat → Option Nat} (hI : ∀ q ∈ gFlI, I q.1 q.2.1 = q.2.2) (hL : ∀ q ∈ gFlL, L q.1 q.2.1 = q.2.2) (hR : ∀ q ∈ gFlR, R q.1 q.2.1 = some q.2.2) (a : Int32) : gW X (d + 12) 124 0 0 0 (gEn 124 [.ref 0, .int a]) [] (gK 87, I, L, R) (fun r σ => r = some (.int (f1_go a)) ∧ gFr σ I L R) := by
  show gW _ _ _ _ _ _ [some (.ref 0), some (.int a), none] _ _ _
  refine w_aload rfl rfl ?_
  refine w_getR (r := 8) rfl rfl (hR _ fmR_0_1) ?_
  refine w_iload rfl rfl ?_
  refine w_callVi (As := [_]) (le := [some _, some _]) rfl rfl rfl (Nat.le_of_ble_eq_true rfl) (Nat.le_of_ble_eq_true rfl) rfl ?_
  refine w_iload rfl rfl ?_
  refine w_if_ltZ rfl rfl (fun h1 => ?_) (fun h1 => ?_)
  · refine w_pushI rfl ?_
    refine w_iret rfl (Or.inr ⟨rfl, by decide⟩) ?_
    show gW _ _ _ _ _ _ _ _ _ _
    refine w_if_ne rfl (fun h => absurd (by decide) h) (fun _ => ?_)
    refine w_pushI rfl ?_
    refine w_iret rfl (Or.inl rfl) ?_
    exact ⟨congrArg (fun v => some (Value.int v)) (show ((-1) : Int32) = f1_go a by exact rfl), rfl, fun x hx => rfl, fun x hx => rfl, fun x hx => rfl⟩
  · refine w_iload rfl rfl ?_
    refine w_aload rfl rfl ?_
    refine w_getIv (x := 0) rfl rfl (hI _ fmI_8_2) ?_
    refine w_icmp_geZ (b := 0) rfl rfl (by decide) (fun h2 => ?_) (fun h2 => by exfalso; omega)
    refine w_pushI rfl ?_
    refine w_iret rfl (Or.inr ⟨rfl, by decide⟩) ?_
    show gW _ _ _ _ _ _ _ _ _ _
    refine w_if_ne rfl (fun h => absurd (by decide) h) (fun _ => ?_)
    refine w_pushI rfl ?_
    refine w_iret rfl (Or.inl rfl) ?_
    exact ⟨congrArg (fun v => some (Value.int v)) (show ((-1) : Int32) = f1_go a by exact rfl), rfl, fun x hx => rfl, fun x hx => rfl, fun x hx => rfl⟩
set_option maxHeartbeats 40000000 in
set_option maxRecDepth 100000 in
theorem a2_go {X : Nat × (Nat → Int32)} {d : Nat} {I : Nat → Nat → Int32} {L : Nat → Nat → Int64} {R : Nat → Nat → Option Nat} (hI : ∀ q ∈ gFlI, 50 ≤ q.1 → I q.1 q.2.1 = q.2.2) (hL : ∀ q ∈ gFlL, 50 ≤ q.1 → L q.1 q.2.1 = q.2.2) (hR : ∀ q ∈ gFlR, 50 ≤ q.1 → R q.1 q.2.1 = some q.2.2) (a : Int32) : gW X (d + 12) 223 0 0 0 (gEn 223 [.ref 50, .int a]) [] (gK 87, I, L, R) (fun r _ => r = some (.int (f1_go a))) := by
  show gW _ _ _ _ _ _ [some (.ref 50), some (.int a)] _ _ _
  refine w_aload rfl rfl ?_
  refine w_iload rfl rfl ?_
  refine w_callVi (As := [_]) (le := [some _, some _]) rfl rfl rfl (Nat.le_of_ble_eq_true rfl) (Nat.le_of_ble_eq_true rfl) rfl ?_
  refine w_iload rfl rfl ?_
  refine w_pushI rfl ?_
  refine w_aload rfl rfl ?_
  refine w_getIv (x := 0) rfl rfl (hI _ fmI_50_1 (by decide)) ?_
  refine w_pushI rfl ?_
  refine w_isubv (z := (-1)) rfl (by decide) ?_
  refine w_callSi (As := [_, _, _]) (le := [some _, some _, some _]) rfl rfl (Nat.le_of_ble_eq_true rfl) (Nat.le_of_ble_eq_true rfl) rfl ?_
  refine w_iload rfl rfl ?_
  refine w_iload rfl rfl ?_
  refine w_icmp_ltZ (b := 0) rfl rfl (by decide) (fun h1 => ?_) (fun h1 => ?_)
  · refine w_pushI rfl ?_
    refine w_iret rfl (Or.inr ⟨rfl, by decide⟩) ?_
    show gW _ _ _ _ _ _ _ _ _ _
    refine w_iret rfl (Or.inr ⟨rfl, by decide⟩) ?_
    show gW _ _ _ _ _ _ _ _ _ _
    refine w_if_ne rfl (fun h => absurd (by decide) h) (fun _ => ?_)
    refine w_pushI rfl ?_
    refine w_iret rfl (Or.inl rfl) ?_
    exact congrArg (fun v => some (Value.int v)) (show ((-1) : Int32) = f1_go a by exact rfl)
  · refine w_iload rfl rfl ?_
    refine w_iload rfl rfl ?_
    refine w_icmp_gtZ (b := (-1)) rfl rfl (by decide) (fun h2 => ?_) (fun h2 => by exfalso; omega)
    refine w_pushI rfl ?_
    refine w_iret rfl (Or.inr ⟨rfl, by decide⟩) ?_
    show gW _ _ _ _ _ _ _ _ _ _
    refine w_iret rfl (Or.inr ⟨rfl, by decide⟩) ?_
    show gW _ _ _ _ _ _ _ _ _ _
    refine w_if_ne rfl (fun h => absurd (by decide) h) (fun _ => ?_)
    refine w_pushI rfl ?_
    refine w_iret rfl (Or.inl rfl) ?_
    exact congrArg (fun v => some (Value.int v)) (show ((-1) : Int32) = f1_go a by exact rfl)
set_option maxHeartbeats 40000000 in
set_option maxRecDepth 100000 in
theorem a1_listen {X : Nat × (Nat → Int32)} {d : Nat} {I : Nat → Nat → Int32} {L : Nat → Nat → Int64} {R : Nat → Nat → Option Nat} (hI : ∀ q ∈ gFlI, I q.1 q.2.1 = q.2.2) (hL : ∀ q ∈ gFlL, L q.1 q.2.1 = q.2.2) (hR : ∀ q ∈ gFlR, R q.1 q.2.1 = some q.2.2) (a : Int32) : gW X (d + 12) 125 0 0 0 (gEn 125 [.ref 0, .int a]) [] (gK 87, I, L, R) (fun r σ => r = some (.int (f1_listen a)) ∧ gFr σ I L R) := by
  show gW _ _ _ _ _ _ [some (.ref 0), some (.int a)] _ _ _
  refine w_iload rfl rfl ?_
  refine w_callSi (As := [_]) (le := [some _]) rfl rfl (Nat.le_of_ble_eq_true rfl) (Nat.le_of_ble_eq_true rfl) rfl ?_
  refine w_iload rfl rfl ?_
  refine w_pushI rfl ?_
  refine w_icmp_ltZ (b := 1) rfl rfl (by decide) (fun h1 => ?_) (fun h1 => ?_)
  · refine w_pushI rfl ?_
    refine w_iret rfl (Or.inr ⟨rfl, by decide⟩) ?_
    show gW _ _ _ _ _ _ _ _ _ _
    refine w_if_ne rfl (fun h => absurd (by decide) h) (fun _ => ?_)
    refine w_pushI rfl ?_
    refine w_iret rfl (Or.inl rfl) ?_
    exact ⟨congrArg (fun v => some (Value.int v)) (show ((-1) : Int32) = f1_listen a by exact ite_eq_of (fun hc => absurd hc (by omega)) (fun _ => rfl)), rfl, fun x hx => rfl, fun x hx => rfl, fun x hx => rfl⟩
  · refine w_iload rfl rfl ?_
    refine w_pushI rfl ?_
    refine w_icmp_gtZ (b := 99) rfl rfl (by decide) (fun h2 => ?_) (fun h2 => ?_)
    · refine w_pushI rfl ?_
      refine w_iret rfl (Or.inr ⟨rfl, by decide⟩) ?_
      show gW _ _ _ _ _ _ _ _ _ _
      refine w_if_ne rfl (fun h => absurd (by decide) h) (fun _ => ?_)
      refine w_pushI rfl ?_
      refine w_iret rfl (Or.inl rfl) ?_
      exact ⟨congrArg (fun v => some (Value.int v)) (show ((-1) : Int32) = f1_listen a by exact ite_eq_of (fun hc => absurd hc (by omega)) (fun _ => rfl)), rfl, fun x hx => rfl, fun x hx => rfl, fun x hx => rfl⟩
    · refine w_pushI rfl ?_
      refine w_goto rfl ?_
      refine w_iret rfl (Or.inr ⟨rfl, by decide⟩) ?_
      show gW _ _ _ _ _ _ _ _ _ _
      refine w_if_ne rfl (fun _ => ?_) (fun h => absurd h (by decide))
      refine w_aload rfl rfl ?_
      refine w_getR (r := 23) rfl rfl (hR _ fmR_0_6) ?_
      refine w_getIv (x := (-1)) rfl rfl (hI _ fmI_23_4) ?_
      refine w_if_lt rfl (fun _ => ?_) (fun h => absurd (by decide) h)
      refine w_pushI rfl ?_
      refine w_iret rfl (Or.inl rfl) ?_
      exact ⟨congrArg (fun v => some (Value.int v)) (show ((-5) : Int32) = f1_listen a by exact ite_eq_of (fun _ => rfl) (fun hc => absurd (by omega) hc)), rfl, fun x hx => rfl, fun x hx => rfl, fun x hx => rfl⟩
set_option maxHeartbeats 40000000 in
set_option maxRecDepth 100000 in
theorem a2_listen {X : Nat × (Nat → Int32)} {d : Nat} {I : Nat → Nat → Int32} {L : Nat → Nat → Int64} {R : Nat → Nat → Option Nat} (hI : ∀ q ∈ gFlI, 50 ≤ q.1 → I q.1 q.2.1 = q.2.2) (hL : ∀ q ∈ gFlL, 50 ≤ q.1 → L q.1 q.2.1 = q.2.2) (hR : ∀ q ∈ gFlR, 50 ≤ q.1 → R q.1 q.2.1 = some q.2.2) (a : Int32) : gW X (d + 12) 224 0 0 0 (gEn 224 [.ref 50, .int a]) [] (gK 87, I, L, R) (fun r _ => r = some (.int (f1_listen a))) := by
  show gW _ _ _ _ _ _ [some (.ref 50), some (.int a), none, none] _ _ _
  refine w_iload rfl rfl ?_
  refine w_pushI rfl ?_
  refine w_pushI rfl ?_
  refine w_callSi (As := [_, _, _]) (le := [some _, some _, some _]) rfl rfl (Nat.le_of_ble_eq_true rfl) (Nat.le_of_ble_eq_true rfl) rfl ?_
  refine w_iload rfl rfl ?_
  refine w_iload rfl rfl ?_
  refine w_icmp_ltZ (b := 1) rfl rfl (by decide) (fun h1 => ?_) (fun h1 => ?_)
  · refine w_pushI rfl ?_
    refine w_iret rfl (Or.inr ⟨rfl, by decide⟩) ?_
    show gW _ _ _ _ _ _ _ _ _ _
    refine w_if_ne rfl (fun h => absurd (by decide) h) (fun _ => ?_)
    refine w_pushI rfl ?_
    refine w_iret rfl (Or.inl rfl) ?_
    exact congrArg (fun v => some (Value.int v)) (show ((-1) : Int32) = f1_listen a by exact ite_eq_of (fun hc => absurd hc (by omega)) (fun _ => rfl))
  · refine w_iload rfl rfl ?_
    refine w_iload rfl rfl ?_
    refine w_icmp_gtZ (b := 99) rfl rfl (by decide) (fun h2 => ?_) (fun h2 => ?_)
    · refine w_pushI rfl ?_
      refine w_iret rfl (Or.inr ⟨rfl, by decide⟩) ?_
      show gW _ _ _ _ _ _ _ _ _ _
      refine w_if_ne rfl (fun h => absurd (by decide) h) (fun _ => ?_)
      refine w_pushI rfl ?_
      refine w_iret rfl (Or.inl rfl) ?_
      exact congrArg (fun v => some (Value.int v)) (show ((-1) : Int32) = f1_listen a by exact ite_eq_of (fun hc => absurd hc (by omega)) (fun _ => rfl))
    · refine w_pushI rfl ?_
      refine w_goto rfl ?_
      refine w_iret rfl (Or.inr ⟨rfl, by decide⟩) ?_
      show gW _ _ _ _ _ _ _ _ _ _
      refine w_if_ne rfl (fun _ => ?_) (fun h => absurd h (by decide))
      refine w_aload rfl rfl ?_
      refine w_getIv (x := (-1)) rfl rfl (hI _ fmI_50_44 (by decide)) ?_
      refine w_if_lt rfl (fun _ => ?_) (fun h => absurd (by decide) h)
      refine w_pushI rfl ?_
      refine w_iret rfl (Or.inl rfl) ?_
      exact congrArg (fun v => some (Value.int v)) (show ((-5) : Int32) = f1_listen a by exact ite_eq_of (fun _ => rfl) (fun hc => absurd (by omega) hc))
set_option maxHeartbeats 40000000 in
set_option maxRecDepth 100000 in
theorem a1_find {X : Nat × (Nat → Int32)} {d : Nat} {I : Nat → Nat → Int32} {L : Nat → Nat → Int64} {R : Nat → Nat → Option Nat} (hI : ∀ q ∈ gFlI, I q.1 q.2.1 = q.2.2) (hL : ∀ q ∈ gFlL, L q.1 q.2.1 = q.2.2) (hR : ∀ q ∈ gFlR, R q.1 q.2.1 = some q.2.2) (a : Int32) : gW X (d + 12) 126 0 0 0 (gEn 126 [.ref 0, .int a]) [] (gK 87, I, L, R) (fun r σ => r = some (.int (f1_find a)) ∧ gFr σ I L R) := by
  show gW _ _ _ _ _ _ [some (.ref 0), some (.int a)] _ _ _
  refine w_aload rfl rfl ?_
  refine w_getR (r := 8) rfl rfl (hR _ fmR_0_1) ?_
  refine w_iload rfl rfl ?_
  refine w_callVi (As := [_]) (le := [some _, some _]) rfl rfl rfl (Nat.le_of_ble_eq_true rfl) (Nat.le_of_ble_eq_true rfl) rfl ?_
  refine w_iload rfl rfl ?_
  refine w_if_ltZ rfl rfl (fun h1 => ?_) (fun h1 => ?_)
  · refine w_pushI rfl ?_
    refine w_iret rfl (Or.inr ⟨rfl, by decide⟩) ?_
    show gW _ _ _ _ _ _ _ _ _ _
    refine w_if_eq rfl (fun _ => ?_) (fun h => absurd (by decide) h)
    refine w_pushI rfl ?_
    refine w_iret rfl (Or.inl rfl) ?_
    exact ⟨congrArg (fun v => some (Value.int v)) (show ((-1) : Int32) = f1_find a by exact rfl), rfl, fun x hx => rfl, fun x hx => rfl, fun x hx => rfl⟩
  · refine w_iload rfl rfl ?_
    refine w_aload rfl rfl ?_
    refine w_getIv (x := 0) rfl rfl (hI _ fmI_8_2) ?_
    refine w_icmp_geZ (b := 0) rfl rfl (by decide) (fun h2 => ?_) (fun h2 => by exfalso; omega)
    refine w_pushI rfl ?_
    refine w_iret rfl (Or.inr ⟨rfl, by decide⟩) ?_
    show gW _ _ _ _ _ _ _ _ _ _
    refine w_if_eq rfl (fun _ => ?_) (fun h => absurd (by decide) h)
    refine w_pushI rfl ?_
    refine w_iret rfl (Or.inl rfl) ?_
    exact ⟨congrArg (fun v => some (Value.int v)) (show ((-1) : Int32) = f1_find a by exact rfl), rfl, fun x hx => rfl, fun x hx => rfl, fun x hx => rfl⟩
set_option maxHeartbeats 40000000 in
set_option maxRecDepth 100000 in
theorem a2_find {X : Nat × (Nat → Int32)} {d : Nat} {I : Nat → Nat → Int32} {L : Nat → Nat → Int64} {R : Nat → Nat → Option Nat} (hI : ∀ q ∈ gFlI, 50 ≤ q.1 → I q.1 q.2.1 = q.2.2) (hL : ∀ q ∈ gFlL, 50 ≤ q.1 → L q.1 q.2.1 = q.2.2) (hR : ∀ q ∈ gFlR, 50 ≤ q.1 → R q.1 q.2.1 = some q.2.2) (a : Int32) : gW X (d + 12) 225 0 0 0 (gEn 225 [.ref 50, .int a]) [] (gK 87, I, L, R) (fun r _ => r = some (.int (f1_find a))) := by
  show gW _ _ _ _ _ _ [some (.ref 50), some (.int a), none, none] _ _ _
  refine w_aload rfl rfl ?_
  refine w_iload rfl rfl ?_
  refine w_callVi (As := [_]) (le := [some _, some _]) rfl rfl rfl (Nat.le_of_ble_eq_true rfl) (Nat.le_of_ble_eq_true rfl) rfl ?_
  refine w_iload rfl rfl ?_
  refine w_pushI rfl ?_
  refine w_aload rfl rfl ?_
  refine w_getIv (x := 0) rfl rfl (hI _ fmI_50_1 (by decide)) ?_
  refine w_pushI rfl ?_
  refine w_isubv (z := (-1)) rfl (by decide) ?_
  refine w_callSi (As := [_, _, _]) (le := [some _, some _, some _]) rfl rfl (Nat.le_of_ble_eq_true rfl) (Nat.le_of_ble_eq_true rfl) rfl ?_
  refine w_iload rfl rfl ?_
  refine w_iload rfl rfl ?_
  refine w_icmp_ltZ (b := 0) rfl rfl (by decide) (fun h1 => ?_) (fun h1 => ?_)
  · refine w_pushI rfl ?_
    refine w_iret rfl (Or.inr ⟨rfl, by decide⟩) ?_
    show gW _ _ _ _ _ _ _ _ _ _
    refine w_iret rfl (Or.inr ⟨rfl, by decide⟩) ?_
    show gW _ _ _ _ _ _ _ _ _ _
    refine w_if_ne rfl (fun h => absurd (by decide) h) (fun _ => ?_)
    refine w_pushI rfl ?_
    refine w_iret rfl (Or.inl rfl) ?_
    exact congrArg (fun v => some (Value.int v)) (show ((-1) : Int32) = f1_find a by exact rfl)
  · refine w_iload rfl rfl ?_
    refine w_iload rfl rfl ?_
    refine w_icmp_gtZ (b := (-1)) rfl rfl (by decide) (fun h2 => ?_) (fun h2 => by exfalso; omega)
    refine w_pushI rfl ?_
    refine w_iret rfl (Or.inr ⟨rfl, by decide⟩) ?_
    show gW _ _ _ _ _ _ _ _ _ _
    refine w_iret rfl (Or.inr ⟨rfl, by decide⟩) ?_
    show gW _ _ _ _ _ _ _ _ _ _
    refine w_if_ne rfl (fun h => absurd (by decide) h) (fun _ => ?_)
    refine w_pushI rfl ?_
    refine w_iret rfl (Or.inl rfl) ?_
    exact congrArg (fun v => some (Value.int v)) (show ((-1) : Int32) = f1_find a by exact rfl)
set_option maxHeartbeats 40000000 in
set_option maxRecDepth 100000 in
theorem a1_again {X : Nat × (Nat → Int32)} {d : Nat} {I : Nat → Nat → Int32} {L : Nat → Nat → Int64} {R : Nat → Nat → Option Nat} (hI : ∀ q ∈ gFlI, I q.1 q.2.1 = q.2.2) (hL : ∀ q ∈ gFlL, L q.1 q.2.1 = q.2.2) (hR : ∀ q ∈ gFlR, R q.1 q.2.1 = some q.2.2)  : gW X (d + 12) 127 0 0 0 (gEn 127 [.ref 0]) [] (gK 87, I, L, R) (fun r σ => r = some (.int (f1_again )) ∧ gFr σ I L R) := by
  show gW _ _ _ _ _ _ [some (.ref 0)] _ _ _
  refine w_aload rfl rfl ?_
  refine w_getR (r := 23) rfl rfl (hR _ fmR_0_6) ?_
  refine w_callVi (As := []) (le := [some _, none, none]) rfl rfl rfl (Nat.le_of_ble_eq_true rfl) (Nat.le_of_ble_eq_true rfl) rfl ?_
  refine w_pushI rfl ?_
  refine w_istore rfl rfl ?_
  refine w_pushI rfl ?_
  refine w_istore rfl rfl ?_
  refine w_iload rfl rfl ?_
  refine w_pushI rfl ?_
  refine w_icmp_ge rfl (fun h => absurd h (by decide)) (fun _ => ?_)
  refine w_aload rfl rfl ?_
  refine w_getR (r := 24) rfl rfl (hR _ fmR_23_1) ?_
  refine w_iload rfl rfl ?_
  refine w_aload rfl rfl ?_
  refine w_getR (r := 8) rfl rfl (hR _ fmR_23_0) ?_
  refine w_iload rfl rfl ?_
  refine w_callVi (As := [_]) (le := [some _, some _]) rfl rfl rfl (Nat.le_of_ble_eq_true rfl) (Nat.le_of_ble_eq_true rfl) rfl ?_
  refine w_iload rfl rfl ?_
  refine w_if_lt rfl (fun h => absurd h (by decide)) (fun _ => ?_)
  refine w_iload rfl rfl ?_
  refine w_aload rfl rfl ?_
  refine w_getIv (x := 0) rfl rfl (hI _ fmI_8_2) ?_
  refine w_icmp_ge rfl (fun _ => ?_) (fun h => absurd (by decide) h)
  refine w_pushI rfl ?_
  refine w_iret rfl (Or.inr ⟨rfl, by decide⟩) ?_
  show gW _ _ _ _ _ _ _ _ _ _
  refine w_if_eq rfl (fun _ => ?_) (fun h => absurd (by decide) h)
  refine w_pushI rfl ?_
  refine w_iastv (j := 0) rfl rfl (by decide) (by unfold vp_in; decide) rfl ?_
  refine w_aload rfl rfl ?_
  refine w_getR (r := 25) rfl rfl (hR _ fmR_23_2) ?_
  refine w_iload rfl rfl ?_
  refine w_pushI rfl ?_
  refine w_iastv (j := 0) rfl rfl (by decide) (by unfold vp_in; decide) rfl ?_
  refine w_iload rfl rfl ?_
  refine w_aload rfl rfl ?_
  refine w_getR (r := 24) rfl rfl (hR _ fmR_23_1) ?_
  refine w_iload rfl rfl ?_
  refine w_ialdv (j := 0) (x := 0) rfl rfl (by decide) (by unfold vp_in; decide) ((gU_n (by decide)).trans (gU_e)) ?_
  refine w_iaddv (z := 0) rfl (by decide) ?_
  refine w_istore rfl rfl ?_
  refine w_iincv (z := 1) rfl rfl (by decide) rfl ?_
  refine w_goto rfl ?_
  refine w_iload rfl rfl ?_
  refine w_pushI rfl ?_
  refine w_icmp_ge rfl (fun h => absurd h (by decide)) (fun _ => ?_)
  refine w_aload rfl rfl ?_
  refine w_getR (r := 24) rfl rfl (hR _ fmR_23_1) ?_
  refine w_iload rfl rfl ?_
  refine w_aload rfl rfl ?_
  refine w_getR (r := 8) rfl rfl (hR _ fmR_23_0) ?_
  refine w_iload rfl rfl ?_
  refine w_callVi (As := [_]) (le := [some _, some _]) rfl rfl rfl (Nat.le_of_ble_eq_true rfl) (Nat.le_of_ble_eq_true rfl) rfl ?_
  refine w_iload rfl rfl ?_
  refine w_if_lt rfl (fun h => absurd h (by decide)) (fun _ => ?_)
  refine w_iload rfl rfl ?_
  refine w_aload rfl rfl ?_
  refine w_getIv (x := 0) rfl rfl ((gU_n (by decide)).trans ((gU_n (by decide)).trans (hI _ fmI_8_2))) ?_
  refine w_icmp_ge rfl (fun _ => ?_) (fun h => absurd (by decide) h)
  refine w_pushI rfl ?_
  refine w_iret rfl (Or.inr ⟨rfl, by decide⟩) ?_
  show gW _ _ _ _ _ _ _ _ _ _
  refine w_if_eq rfl (fun _ => ?_) (fun h => absurd (by decide) h)
  refine w_pushI rfl ?_
  refine w_iastv (j := 1) rfl rfl (by decide) (by unfold vp_in; decide) rfl ?_
  refine w_aload rfl rfl ?_
  refine w_getR (r := 25) rfl rfl (hR _ fmR_23_2) ?_
  refine w_iload rfl rfl ?_
  refine w_pushI rfl ?_
  refine w_iastv (j := 1) rfl rfl (by decide) (by unfold vp_in; decide) rfl ?_
  refine w_iload rfl rfl ?_
  refine w_aload rfl rfl ?_
  refine w_getR (r := 24) rfl rfl (hR _ fmR_23_1) ?_
  refine w_iload rfl rfl ?_
  refine w_ialdv (j := 1) (x := 0) rfl rfl (by decide) (by unfold vp_in; decide) ((gU_n (by decide)).trans (gU_e)) ?_
  refine w_iaddv (z := 0) rfl (by decide) ?_
  refine w_istore rfl rfl ?_
  refine w_iincv (z := 2) rfl rfl (by decide) rfl ?_
  refine w_goto rfl ?_
  refine w_iload rfl rfl ?_
  refine w_pushI rfl ?_
  refine w_icmp_ge rfl (fun h => absurd h (by decide)) (fun _ => ?_)
  refine w_aload rfl rfl ?_
  refine w_getR (r := 24) rfl rfl (hR _ fmR_23_1) ?_
  refine w_iload rfl rfl ?_
  refine w_aload rfl rfl ?_
  refine w_getR (r := 8) rfl rfl (hR _ fmR_23_0) ?_
  refine w_iload rfl rfl ?_
  refine w_callVi (As := [_]) (le := [some _, some _]) rfl rfl rfl (Nat.le_of_ble_eq_true rfl) (Nat.le_of_ble_eq_true rfl) rfl ?_
  refine w_iload rfl rfl ?_
  refine w_if_lt rfl (fun h => absurd h (by decide)) (fun _ => ?_)
  refine w_iload rfl rfl ?_
  refine w_aload rfl rfl ?_
  refine w_getIv (x := 0) rfl rfl ((gU_n (by decide)).trans ((gU_n (by decide)).trans ((gU_n (by decide)).trans ((gU_n (by decide)).trans (hI _ fmI_8_2))))) ?_
  refine w_icmp_ge rfl (fun _ => ?_) (fun h => absurd (by decide) h)
  refine w_pushI rfl ?_
  refine w_iret rfl (Or.inr ⟨rfl, by decide⟩) ?_
  show gW _ _ _ _ _ _ _ _ _ _
  refine w_if_eq rfl (fun _ => ?_) (fun h => absurd (by decide) h)
  refine w_pushI rfl ?_
  refine w_iastv (j := 2) rfl rfl (by decide) (by unfold vp_in; decide) rfl ?_
  refine w_aload rfl rfl ?_
  refine w_getR (r := 25) rfl rfl (hR _ fmR_23_2) ?_
  refine w_iload rfl rfl ?_
  refine w_pushI rfl ?_
  refine w_iastv (j := 2) rfl rfl (by decide) (by unfold vp_in; decide) rfl ?_
  refine w_iload rfl rfl ?_
  refine w_aload rfl rfl ?_
  refine w_getR (r := 24) rfl rfl (hR _ fmR_23_1) ?_
  refine w_iload rfl rfl ?_
  refine w_ialdv (j := 2) (x := 0) rfl rfl (by decide) (by unfold vp_in; decide) ((gU_n (by decide)).trans (gU_e)) ?_
  refine w_iaddv (z := 0) rfl (by decide) ?_
  refine w_istore rfl rfl ?_
  refine w_iincv (z := 3) rfl rfl (by decide) rfl ?_
  refine w_goto rfl ?_
  refine w_iload rfl rfl ?_
  refine w_pushI rfl ?_
  refine w_icmp_ge rfl (fun h => absurd h (by decide)) (fun _ => ?_)
  refine w_aload rfl rfl ?_
  refine w_getR (r := 24) rfl rfl (hR _ fmR_23_1) ?_
  refine w_iload rfl rfl ?_
  refine w_aload rfl rfl ?_
  refine w_getR (r := 8) rfl rfl (hR _ fmR_23_0) ?_
  refine w_iload rfl rfl ?_
  refine w_callVi (As := [_]) (le := [some _, some _]) rfl rfl rfl (Nat.le_of_ble_eq_true rfl) (Nat.le_of_ble_eq_true rfl) rfl ?_
  refine w_iload rfl rfl ?_
  refine w_if_lt rfl (fun h => absurd h (by decide)) (fun _ => ?_)
  refine w_iload rfl rfl ?_
  refine w_aload rfl rfl ?_
  refine w_getIv (x := 0) rfl rfl ((gU_n (by decide)).trans ((gU_n (by decide)).trans ((gU_n (by decide)).trans ((gU_n (by decide)).trans ((gU_n (by decide)).trans ((gU_n (by decide)).trans (hI _ fmI_8_2))))))) ?_
  refine w_icmp_ge rfl (fun _ => ?_) (fun h => absurd (by decide) h)
  refine w_pushI rfl ?_
  refine w_iret rfl (Or.inr ⟨rfl, by decide⟩) ?_
  show gW _ _ _ _ _ _ _ _ _ _
  refine w_if_eq rfl (fun _ => ?_) (fun h => absurd (by decide) h)
  refine w_pushI rfl ?_
  refine w_iastv (j := 3) rfl rfl (by decide) (by unfold vp_in; decide) rfl ?_
  refine w_aload rfl rfl ?_
  refine w_getR (r := 25) rfl rfl (hR _ fmR_23_2) ?_
  refine w_iload rfl rfl ?_
  refine w_pushI rfl ?_
  refine w_iastv (j := 3) rfl rfl (by decide) (by unfold vp_in; decide) rfl ?_
  refine w_iload rfl rfl ?_
  refine w_aload rfl rfl ?_
  refine w_getR (r := 24) rfl rfl (hR _ fmR_23_1) ?_
  refine w_iload rfl rfl ?_
  refine w_ialdv (j := 3) (x := 0) rfl rfl (by decide) (by unfold vp_in; decide) ((gU_n (by decide)).trans (gU_e)) ?_
  refine w_iaddv (z := 0) rfl (by decide) ?_
  refine w_istore rfl rfl ?_
  refine w_iincv (z := 4) rfl rfl (by decide) rfl ?_
  refine w_goto rfl ?_
  refine w_iload rfl rfl ?_
  refine w_pushI rfl ?_
  refine w_icmp_ge rfl (fun h => absurd h (by decide)) (fun _ => ?_)
  refine w_aload rfl rfl ?_
  refine w_getR (r := 24) rfl rfl (hR _ fmR_23_1) ?_
  refine w_iload rfl rfl ?_
  refine w_aload rfl rfl ?_
  refine w_getR (r := 8) rfl rfl (hR _ fmR_23_0) ?_
  refine w_iload rfl rfl ?_
  refine w_callVi (As := [_]) (le := [some _, some _]) rfl rfl rfl (Nat.le_of_ble_eq_true rfl) (Nat.le_of_ble_eq_true rfl) rfl ?_
  refine w_iload rfl rfl ?_
  refine w_if_lt rfl (fun h => absurd h (by decide)) (fun _ => ?_)
  refine w_iload rfl rfl ?_
  refine w_aload rfl rfl ?_
  refine w_getIv (x := 0) rfl rfl ((gU_n (by decide)).trans ((gU_n (by decide)).trans ((gU_n (by decide)).trans ((gU_n (by decide)).trans ((gU_n (by decide)).trans ((gU_n (by decide)).trans ((gU_n (by decide)).trans ((gU_n (by decide)).trans (hI _ fmI_8_2))))))))) ?_
  refine w_icmp_ge rfl (fun _ => ?_) (fun h => absurd (by decide) h)
  refine w_pushI rfl ?_
  refine w_iret rfl (Or.inr ⟨rfl, by decide⟩) ?_
  show gW _ _ _ _ _ _ _ _ _ _
  refine w_if_eq rfl (fun _ => ?_) (fun h => absurd (by decide) h)
  refine w_pushI rfl ?_
  refine w_iastv (j := 4) rfl rfl (by decide) (by unfold vp_in; decide) rfl ?_
  refine w_aload rfl rfl ?_
  refine w_getR (r := 25) rfl rfl (hR _ fmR_23_2) ?_
  refine w_iload rfl rfl ?_
  refine w_pushI rfl ?_
  refine w_iastv (j := 4) rfl rfl (by decide) (by unfold vp_in; decide) rfl ?_
  refine w_iload rfl rfl ?_
  refine w_aload rfl rfl ?_
  refine w_getR (r := 24) rfl rfl (hR _ fmR_23_1) ?_
  refine w_iload rfl rfl ?_
  refine w_ialdv (j := 4) (x := 0) rfl rfl (by decide) (by unfold vp_in; decide) ((gU_n (by decide)).trans (gU_e)) ?_
  refine w_iaddv (z := 0) rfl (by decide) ?_
  refine w_istore rfl rfl ?_
  refine w_iincv (z := 5) rfl rfl (by decide) rfl ?_
  refine w_goto rfl ?_
  refine w_iload rfl rfl ?_
  refine w_pushI rfl ?_
  refine w_icmp_ge rfl (fun h => absurd h (by decide)) (fun _ => ?_)
  refine w_aload rfl rfl ?_
  refine w_getR (r := 24) rfl rfl (hR _ fmR_23_1) ?_
  refine w_iload rfl rfl ?_
  refine w_aload rfl rfl ?_
  refine w_getR (r := 8) rfl rfl (hR _ fmR_23_0) ?_
  refine w_iload rfl rfl ?_
  refine w_callVi (As := [_]) (le := [some _, some _]) rfl rfl rfl (Nat.le_of_ble_eq_true rfl) (Nat.le_of_ble_eq_true rfl) rfl ?_
  refine w_iload rfl rfl ?_
  refine w_if_lt rfl (fun h => absurd h (by decide)) (fun _ => ?_)
  refine w_iload rfl rfl ?_
  refine w_aload rfl rfl ?_
  refine w_getIv (x := 0) rfl rfl ((gU_n (by decide)).trans ((gU_n (by decide)).trans ((gU_n (by decide)).trans ((gU_n (by decide)).trans ((gU_n (by decide)).trans ((gU_n (by decide)).trans ((gU_n (by decide)).trans ((gU_n (by decide)).trans ((gU_n (by decide)).trans ((gU_n (by decide)).trans (hI _ fmI_8_2))))))))))) ?_
  refine w_icmp_ge rfl (fun _ => ?_) (fun h => absurd (by decide) h)
  refine w_pushI rfl ?_
  refine w_iret rfl (Or.inr ⟨rfl, by decide⟩) ?_
  show gW _ _ _ _ _ _ _ _ _ _
  refine w_if_eq rfl (fun _ => ?_) (fun h => absurd (by decide) h)
  refine w_pushI rfl ?_
  refine w_iastv (j := 5) rfl rfl (by decide) (by unfold vp_in; decide) rfl ?_
  refine w_aload rfl rfl ?_
  refine w_getR (r := 25) rfl rfl (hR _ fmR_23_2) ?_
  refine w_iload rfl rfl ?_
  refine w_pushI rfl ?_
  refine w_iastv (j := 5) rfl rfl (by decide) (by unfold vp_in; decide) rfl ?_
  refine w_iload rfl rfl ?_
  refine w_aload rfl rfl ?_
  refine w_getR (r := 24) rfl rfl (hR _ fmR_23_1) ?_
  refine w_iload rfl rfl ?_
  refine w_ialdv (j := 5) (x := 0) rfl rfl (by decide) (by unfold vp_in; decide) ((gU_n (by decide)).trans (gU_e)) ?_
  refine w_iaddv (z := 0) rfl (by decide) ?_
  refine w_istore rfl rfl ?_
  refine w_iincv (z := 6) rfl rfl (by decide) rfl ?_
  refine w_goto rfl ?_
  refine w_iload rfl rfl ?_
  refine w_pushI rfl ?_
  refine w_icmp_ge rfl (fun h => absurd h (by decide)) (fun _ => ?_)
  refine w_aload rfl rfl ?_
  refine w_getR (r := 24) rfl rfl (hR _ fmR_23_1) ?_
  refine w_iload rfl rfl ?_
  refine w_aload rfl rfl ?_
  refine w_getR (r := 8) rfl rfl (hR _ fmR_23_0) ?_
  refine w_iload rfl rfl ?_
  refine w_callVi (As := [_]) (le := [some _, some _]) rfl rfl rfl (Nat.le_of_ble_eq_true rfl) (Nat.le_of_ble_eq_true rfl) rfl ?_
  refine w_iload rfl rfl ?_
  refine w_if_lt rfl (fun h => absurd h (by decide)) (fun _ => ?_)
  refine w_iload rfl rfl ?_
  refine w_aload rfl rfl ?_
  refine w_getIv (x := 0) rfl rfl ((gU_n (by decide)).trans ((gU_n (by decide)).trans ((gU_n (by decide)).trans ((gU_n (by decide)).trans ((gU_n (by decide)).trans ((gU_n (by decide)).trans ((gU_n (by decide)).trans ((gU_n (by decide)).trans ((gU_n (by decide)).trans ((gU_n (by decide)).trans ((gU_n (by decide)).trans ((gU_n (by decide)).trans (hI _ fmI_8_2))))))))))))) ?_
  refine w_icmp_ge rfl (fun _ => ?_) (fun h => absurd (by decide) h)
  refine w_pushI rfl ?_
  refine w_iret rfl (Or.inr ⟨rfl, by decide⟩) ?_
  show gW _ _ _ _ _ _ _ _ _ _
  refine w_if_eq rfl (fun _ => ?_) (fun h => absurd (by decide) h)
  refine w_pushI rfl ?_
  refine w_iastv (j := 6) rfl rfl (by decide) (by unfold vp_in; decide) rfl ?_
  refine w_aload rfl rfl ?_
  refine w_getR (r := 25) rfl rfl (hR _ fmR_23_2) ?_
  refine w_iload rfl rfl ?_
  refine w_pushI rfl ?_
  refine w_iastv (j := 6) rfl rfl (by decide) (by unfold vp_in; decide) rfl ?_
  refine w_iload rfl rfl ?_
  refine w_aload rfl rfl ?_
  refine w_getR (r := 24) rfl rfl (hR _ fmR_23_1) ?_
  refine w_iload rfl rfl ?_
  refine w_ialdv (j := 6) (x := 0) rfl rfl (by decide) (by unfold vp_in; decide) ((gU_n (by decide)).trans (gU_e)) ?_
  refine w_iaddv (z := 0) rfl (by decide) ?_
  refine w_istore rfl rfl ?_
  refine w_iincv (z := 7) rfl rfl (by decide) rfl ?_
  refine w_goto rfl ?_
  refine w_iload rfl rfl ?_
  refine w_pushI rfl ?_
  refine w_icmp_ge rfl (fun h => absurd h (by decide)) (fun _ => ?_)
  refine w_aload rfl rfl ?_
  refine w_getR (r := 24) rfl rfl (hR _ fmR_23_1) ?_
  refine w_iload rfl rfl ?_
  refine w_aload rfl rfl ?_
  refine w_getR (r := 8) rfl rfl (hR _ fmR_23_0) ?_
  refine w_iload rfl rfl ?_
  refine w_callVi (As := [_]) (le := [some _, some _]) rfl rfl rfl (Nat.le_of_ble_eq_true rfl) (Nat.le_of_ble_eq_true rfl) rfl ?_
  refine w_iload rfl rfl ?_
  refine w_if_lt rfl (fun h => absurd h (by decide)) (fun _ => ?_)
  refine w_iload rfl rfl ?_
  refine w_aload rfl rfl ?_
  refine w_getIv (x := 0) rfl rfl ((gU_n (by decide)).trans ((gU_n (by decide)).trans ((gU_n (by decide)).trans ((gU_n (by decide)).trans ((gU_n (by decide)).trans ((gU_n (by decide)).trans ((gU_n (by decide)).trans ((gU_n (by decide)).trans ((gU_n (by decide)).trans ((gU_n (by decide)).trans ((gU_n (by decide)).trans ((gU_n (by decide)).trans ((gU_n (by decide)).trans ((gU_n (by decide)).trans (hI _ fmI_8_2))))))))))))))) ?_
  refine w_icmp_ge rfl (fun _ => ?_) (fun h => absurd (by decide) h)
  refine w_pushI rfl ?_
  refine w_iret rfl (Or.inr ⟨rfl, by decide⟩) ?_
  show gW _ _ _ _ _ _ _ _ _ _
  refine w_if_eq rfl (fun _ => ?_) (fun h => absurd (by decide) h)
  refine w_pushI rfl ?_
  refine w_iastv (j := 7) rfl rfl (by decide) (by unfold vp_in; decide) rfl ?_
  refine w_aload rfl rfl ?_
  refine w_getR (r := 25) rfl rfl (hR _ fmR_23_2) ?_
  refine w_iload rfl rfl ?_
  refine w_pushI rfl ?_
  refine w_iastv (j := 7) rfl rfl (by decide) (by unfold vp_in; decide) rfl ?_
  refine w_iload rfl rfl ?_
  refine w_aload rfl rfl ?_
  refine w_getR (r := 24) rfl rfl (hR _ fmR_23_1) ?_
  refine w_iload rfl rfl ?_
  refine w_ialdv (j := 7) (x := 0) rfl rfl (by decide) (by unfold vp_in; decide) ((gU_n (by decide)).trans (gU_e)) ?_
  refine w_iaddv (z := 0) rfl (by decide) ?_
  refine w_istore rfl rfl ?_
  refine w_iincv (z := 8) rfl rfl (by decide) rfl ?_
  refine w_goto rfl ?_
  refine w_iload rfl rfl ?_
  refine w_pushI rfl ?_
  refine w_icmp_ge rfl (fun _ => ?_) (fun h => absurd (by decide) h)
  refine w_aload rfl rfl ?_
  refine w_pushI rfl ?_
  refine w_putI rfl rfl ?_
  refine w_aload rfl rfl ?_
  refine w_aload rfl rfl ?_
  refine w_getR (r := 8) rfl rfl (hR _ fmR_23_0) ?_
  refine w_pushI rfl ?_
  refine w_callVi (As := [_]) (le := [some _, some _]) rfl rfl rfl (Nat.le_of_ble_eq_true rfl) (Nat.le_of_ble_eq_true rfl) rfl ?_
  refine w_iload rfl rfl ?_
  refine w_if_lt rfl (fun h => absurd h (by decide)) (fun _ => ?_)
  refine w_iload rfl rfl ?_
  refine w_aload rfl rfl ?_
  refine w_getIv (x := 0) rfl rfl ((gU_n (by decide)).trans ((gU_n (by decide)).trans ((gU_n (by decide)).trans ((gU_n (by decide)).trans ((gU_n (by decide)).trans ((gU_n (by decide)).trans ((gU_n (by decide)).trans ((gU_n (by decide)).trans ((gU_n (by decide)).trans ((gU_n (by decide)).trans ((gU_n (by decide)).trans ((gU_n (by decide)).trans ((gU_n (by decide)).trans ((gU_n (by decide)).trans ((gU_n (by decide)).trans ((gU_n (by decide)).trans ((gU_n (by decide)).trans (hI _ fmI_8_2)))))))))))))))))) ?_
  refine w_icmp_ge rfl (fun _ => ?_) (fun h => absurd (by decide) h)
  refine w_pushI rfl ?_
  refine w_iret rfl (Or.inr ⟨rfl, by decide⟩) ?_
  show gW _ _ _ _ _ _ _ _ _ _
  refine w_if_eq rfl (fun _ => ?_) (fun h => absurd (by decide) h)
  refine w_pushI rfl ?_
  refine w_putI rfl rfl ?_
  refine w_iload rfl rfl ?_
  refine w_iret rfl (Or.inl rfl) ?_
  show gW _ _ _ _ _ _ _ _ _ _
  refine w_iret rfl (Or.inl rfl) ?_
  exact ⟨congrArg (fun v => some (Value.int v)) (show (0 : Int32) = f1_again  by exact rfl), rfl, fun x hx => (gU_o (by omega)).trans ((gU_o (by omega)).trans ((gU_o (by omega)).trans ((gU_o (by omega)).trans ((gU_o (by omega)).trans ((gU_o (by omega)).trans ((gU_o (by omega)).trans ((gU_o (by omega)).trans ((gU_o (by omega)).trans ((gU_o (by omega)).trans ((gU_o (by omega)).trans ((gU_o (by omega)).trans ((gU_o (by omega)).trans ((gU_o (by omega)).trans ((gU_o (by omega)).trans ((gU_o (by omega)).trans ((gU_o (by omega)).trans (gU_o (by omega)))))))))))))))))), fun x hx => rfl, fun x hx => rfl⟩
set_option maxHeartbeats 40000000 in
set_option maxRecDepth 100000 in
theorem a2_again {X : Nat × (Nat → Int32)} {d : Nat} {I : Nat → Nat → Int32} {L : Nat → Nat → Int64} {R : Nat → Nat → Option Nat} (hI : ∀ q ∈ gFlI, 50 ≤ q.1 → I q.1 q.2.1 = q.2.2) (hL : ∀ q ∈ gFlL, 50 ≤ q.1 → L q.1 q.2.1 = q.2.2) (hR : ∀ q ∈ gFlR, 50 ≤ q.1 → R q.1 q.2.1 = some q.2.2)  : gW X (d + 12) 226 0 0 0 (gEn 226 [.ref 50]) [] (gK 87, I, L, R) (fun r _ => r = some (.int (f1_again ))) := by
  show gW _ _ _ _ _ _ [some (.ref 50), none, none] _ _ _
  refine w_aload rfl rfl ?_
  refine w_callVi (As := []) (le := [some _, none, none]) rfl rfl rfl (Nat.le_of_ble_eq_true rfl) (Nat.le_of_ble_eq_true rfl) rfl ?_
  refine w_aload rfl rfl ?_
  refine w_callVi (As := []) (le := [some _, none, none]) rfl rfl rfl (Nat.le_of_ble_eq_true rfl) (Nat.le_of_ble_eq_true rfl) rfl ?_
  refine w_aload rfl rfl ?_
  refine w_getR (r := 56) rfl rfl (hR _ fmR_50_7 (by decide)) ?_
  refine w_pushI rfl ?_
  refine w_ialdv (j := 0) (x := 0) rfl rfl (by decide) (by unfold vp_in; decide) (hI _ fmI_56_0 (by decide)) ?_
  refine w_istore rfl rfl ?_
  refine w_pushI rfl ?_
  refine w_istore rfl rfl ?_
  refine w_iload rfl rfl ?_
  refine w_aload rfl rfl ?_
  refine w_getIv (x := 0) rfl rfl (hI _ fmI_50_1 (by decide)) ?_
  refine w_icmp_ge rfl (fun _ => ?_) (fun h => absurd (by decide) h)
  refine w_iload rfl rfl ?_
  refine w_iret rfl (Or.inl rfl) ?_
  show gW _ _ _ _ _ _ _ _ _ _
  refine w_istore rfl rfl ?_
  refine w_pushI rfl ?_
  refine w_istore rfl rfl ?_
  refine w_iload rfl rfl ?_
  refine w_aload rfl rfl ?_
  refine w_getIv (x := 0) rfl rfl (hI _ fmI_50_1 (by decide)) ?_
  refine w_icmp_ge rfl (fun _ => ?_) (fun h => absurd (by decide) h)
  refine w_aload rfl rfl ?_
  refine w_aload rfl rfl ?_
  refine w_getR (r := 56) rfl rfl (hR _ fmR_50_7 (by decide)) ?_
  refine w_pushI rfl ?_
  refine w_ialdv (j := 0) (x := 0) rfl rfl (by decide) (by unfold vp_in; decide) (hI _ fmI_56_0 (by decide)) ?_
  refine w_iload rfl rfl ?_
  refine w_callSi (As := [_, _]) (le := [some _, some _]) rfl rfl (Nat.le_of_ble_eq_true rfl) (Nat.le_of_ble_eq_true rfl) rfl ?_
  refine w_iload rfl rfl ?_
  refine w_if_ne rfl (fun h => absurd (by decide) h) (fun _ => ?_)
  refine w_pushI rfl ?_
  refine w_goto rfl ?_
  refine w_iret rfl (Or.inl rfl) ?_
  show gW _ _ _ _ _ _ _ _ _ _
  refine w_putI rfl rfl ?_
  refine w_aload rfl rfl ?_
  refine w_pushI rfl ?_
  refine w_putI rfl rfl ?_
  refine w_aload rfl rfl ?_
  refine w_pushI rfl ?_
  refine w_putI rfl rfl ?_
  refine w_aload rfl rfl ?_
  refine w_pushI rfl ?_
  refine w_putI rfl rfl ?_
  refine w_vret rfl rfl ?_
  show gW _ _ _ _ _ _ _ _ _ _
  refine w_pushI rfl ?_
  refine w_istore rfl rfl ?_
  refine w_pushI rfl ?_
  refine w_istore rfl rfl ?_
  refine w_iload rfl rfl ?_
  refine w_aload rfl rfl ?_
  refine w_getIv (x := 0) rfl rfl ((gU_n (by decide)).trans ((gU_n (by decide)).trans ((gU_n (by decide)).trans ((gU_n (by decide)).trans (hI _ fmI_50_1 (by decide)))))) ?_
  refine w_icmp_ge rfl (fun _ => ?_) (fun h => absurd (by decide) h)
  refine w_aload rfl rfl ?_
  refine w_pushI rfl ?_
  refine w_putI rfl rfl ?_
  refine w_aload rfl rfl ?_
  refine w_aload rfl rfl ?_
  refine w_getIv (x := 0) rfl rfl ((gU_n (by decide)).trans ((gU_n (by decide)).trans ((gU_n (by decide)).trans ((gU_n (by decide)).trans ((gU_n (by decide)).trans (hI _ fmI_50_1 (by decide))))))) ?_
  refine w_if_le rfl (fun _ => ?_) (fun h => absurd (by decide) h)
  refine w_pushI rfl ?_
  refine w_putI rfl rfl ?_
  refine w_iload rfl rfl ?_
  refine w_iret rfl (Or.inl rfl) ?_
  exact congrArg (fun v => some (Value.int v)) (show (0 : Int32) = f1_again  by exact rfl)
set_option maxHeartbeats 40000000 in
set_option maxRecDepth 100000 in
theorem a1_led {X : Nat × (Nat → Int32)} {d : Nat} {I : Nat → Nat → Int32} {L : Nat → Nat → Int64} {R : Nat → Nat → Option Nat} (hI : ∀ q ∈ gFlI, I q.1 q.2.1 = q.2.2) (hL : ∀ q ∈ gFlL, L q.1 q.2.1 = q.2.2) (hR : ∀ q ∈ gFlR, R q.1 q.2.1 = some q.2.2) (a : Int32) : gW X (d + 12) 128 0 0 0 (gEn 128 [.ref 0, .int a]) [] (gK 87, I, L, R) (fun r σ => r = some (.int (f1_led a)) ∧ gFr σ I L R) := by
  show gW _ _ _ _ _ _ [some (.ref 0), some (.int a)] _ _ _
  refine w_iload rfl rfl ?_
  refine w_sw rfl (fun q hq hx => ?_) (fun hq => ?_)
  · have hq : q ∈ [((0 : Int32), 40), ((1 : Int32), 48), ((2 : Int32), 56), ((3 : Int32), 64), ((4 : Int32), 72), ((5 : Int32), 80)] := hq
    simp only [List.mem_cons, List.not_mem_nil, or_false] at hq
    rcases hq with rfl | rfl | rfl | rfl | rfl | rfl
    · obtain rfl : a = 0 := hx
      refine w_aload rfl rfl ?_
      refine w_getR (r := 23) rfl rfl (hR _ fmR_0_6) ?_
      refine w_getIv (x := 0) rfl rfl (hI _ fmI_23_3) ?_
      refine w_iret rfl (Or.inl rfl) ?_
      exact ⟨congrArg (fun v => some (Value.int v)) (show (0 : Int32) = f1_led (0) by have e0 : (0 : Int32).toInt = 0 := rfl; exact ite_eq_of (fun _ => rfl) (fun hc => absurd (by omega) hc)), rfl, fun x hx => rfl, fun x hx => rfl, fun x hx => rfl⟩
    · obtain rfl : a = 1 := hx
      refine w_aload rfl rfl ?_
      refine w_getR (r := 23) rfl rfl (hR _ fmR_0_6) ?_
      refine w_getIv (x := 0) rfl rfl (hI _ fmI_23_5) ?_
      refine w_iret rfl (Or.inl rfl) ?_
      exact ⟨congrArg (fun v => some (Value.int v)) (show (0 : Int32) = f1_led (1) by have e0 : (1 : Int32).toInt = 1 := rfl; exact ite_eq_of (fun _ => rfl) (fun hc => absurd (by omega) hc)), rfl, fun x hx => rfl, fun x hx => rfl, fun x hx => rfl⟩
    · obtain rfl : a = 2 := hx
      refine w_aload rfl rfl ?_
      refine w_getR (r := 23) rfl rfl (hR _ fmR_0_6) ?_
      refine w_getIv (x := 0) rfl rfl (hI _ fmI_23_6) ?_
      refine w_iret rfl (Or.inl rfl) ?_
      exact ⟨congrArg (fun v => some (Value.int v)) (show (0 : Int32) = f1_led (2) by have e0 : (2 : Int32).toInt = 2 := rfl; exact ite_eq_of (fun _ => rfl) (fun hc => absurd (by omega) hc)), rfl, fun x hx => rfl, fun x hx => rfl, fun x hx => rfl⟩
    · obtain rfl : a = 3 := hx
      refine w_aload rfl rfl ?_
      refine w_getR (r := 23) rfl rfl (hR _ fmR_0_6) ?_
      refine w_getIv (x := 0) rfl rfl (hI _ fmI_23_7) ?_
      refine w_iret rfl (Or.inl rfl) ?_
      exact ⟨congrArg (fun v => some (Value.int v)) (show (0 : Int32) = f1_led (3) by have e0 : (3 : Int32).toInt = 3 := rfl; exact ite_eq_of (fun _ => rfl) (fun hc => absurd (by omega) hc)), rfl, fun x hx => rfl, fun x hx => rfl, fun x hx => rfl⟩
    · obtain rfl : a = 4 := hx
      refine w_aload rfl rfl ?_
      refine w_getR (r := 23) rfl rfl (hR _ fmR_0_6) ?_
      refine w_getIv (x := 0) rfl rfl (hI _ fmI_23_8) ?_
      refine w_iret rfl (Or.inl rfl) ?_
      exact ⟨congrArg (fun v => some (Value.int v)) (show (0 : Int32) = f1_led (4) by have e0 : (4 : Int32).toInt = 4 := rfl; exact ite_eq_of (fun _ => rfl) (fun hc => absurd (by omega) hc)), rfl, fun x hx => rfl, fun x hx => rfl, fun x hx => rfl⟩
    · obtain rfl : a = 5 := hx
      refine w_aload rfl rfl ?_
      refine w_getR (r := 23) rfl rfl (hR _ fmR_0_6) ?_
      refine w_getIv (x := (-1)) rfl rfl (hI _ fmI_23_4) ?_
      refine w_if_ge rfl (fun h => absurd h (by decide)) (fun _ => ?_)
      refine w_pushI rfl ?_
      refine w_goto rfl ?_
      refine w_iret rfl (Or.inl rfl) ?_
      exact ⟨congrArg (fun v => some (Value.int v)) (show ((-2) : Int32) = f1_led (5) by have e0 : (5 : Int32).toInt = 5 := rfl; exact ite_eq_of (fun hc => absurd hc (by omega)) (fun _ => ite_eq_of (fun _ => rfl) (fun hc => absurd (by omega) hc))), rfl, fun x hx => rfl, fun x hx => rfl, fun x hx => rfl⟩
  · have hq : ∀ q ∈ [((0 : Int32), 40), ((1 : Int32), 48), ((2 : Int32), 56), ((3 : Int32), 64), ((4 : Int32), 72), ((5 : Int32), 80)], ¬ a = q.1 := hq
    have hn0 : ¬ a.toInt = 0 := fun h => hq (0, 40) (by simp) (i_is h (by decide))
    have hn1 : ¬ a.toInt = 1 := fun h => hq (1, 48) (by simp) (i_is h (by decide))
    have hn2 : ¬ a.toInt = 2 := fun h => hq (2, 56) (by simp) (i_is h (by decide))
    have hn3 : ¬ a.toInt = 3 := fun h => hq (3, 64) (by simp) (i_is h (by decide))
    have hn4 : ¬ a.toInt = 4 := fun h => hq (4, 72) (by simp) (i_is h (by decide))
    have hn5 : ¬ a.toInt = 5 := fun h => hq (5, 80) (by simp) (i_is h (by decide))
    refine w_pushI rfl ?_
    refine w_iret rfl (Or.inl rfl) ?_
    exact ⟨congrArg (fun v => some (Value.int v)) (show ((-1) : Int32) = f1_led a by exact ite_eq_of (fun hc => (by exfalso; omega)) (fun hc => ite_eq_of (fun hc => (by exfalso; omega)) (fun hc => rfl))), rfl, fun x hx => rfl, fun x hx => rfl, fun x hx => rfl⟩
set_option maxHeartbeats 40000000 in
set_option maxRecDepth 100000 in
theorem a2_led {X : Nat × (Nat → Int32)} {d : Nat} {I : Nat → Nat → Int32} {L : Nat → Nat → Int64} {R : Nat → Nat → Option Nat} (hI : ∀ q ∈ gFlI, 50 ≤ q.1 → I q.1 q.2.1 = q.2.2) (hL : ∀ q ∈ gFlL, 50 ≤ q.1 → L q.1 q.2.1 = q.2.2) (hR : ∀ q ∈ gFlR, 50 ≤ q.1 → R q.1 q.2.1 = some q.2.2) (a : Int32) : gW X (d + 12) 227 0 0 0 (gEn 227 [.ref 50, .int a]) [] (gK 87, I, L, R) (fun r _ => r = some (.int (f1_led a))) := by
  show gW _ _ _ _ _ _ [some (.ref 50), some (.int a)] _ _ _
  refine w_iload rfl rfl ?_
  refine w_if_neZ rfl rfl (fun h1 => ?_) (fun h1 => ?_)
  · refine w_iload rfl rfl ?_
    refine w_pushI rfl ?_
    refine w_icmp_neZ (b := 5) rfl rfl (by decide) (fun h2 => ?_) (fun h2 => ?_)
    · refine w_iload rfl rfl ?_
      refine w_pushI rfl ?_
      refine w_pushI rfl ?_
      refine w_callSi (As := [_, _, _]) (le := [some _, some _, some _]) rfl rfl (Nat.le_of_ble_eq_true rfl) (Nat.le_of_ble_eq_true rfl) rfl ?_
      refine w_iload rfl rfl ?_
      refine w_iload rfl rfl ?_
      refine w_icmp_ltZ (b := 1) rfl rfl (by decide) (fun h3 => ?_) (fun h3 => ?_)
      · refine w_pushI rfl ?_
        refine w_iret rfl (Or.inr ⟨rfl, by decide⟩) ?_
        show gW _ _ _ _ _ _ _ _ _ _
        refine w_if_eq rfl (fun _ => ?_) (fun h => absurd (by decide) h)
        refine w_pushI rfl ?_
        refine w_iret rfl (Or.inl rfl) ?_
        exact congrArg (fun v => some (Value.int v)) (show ((-1) : Int32) = f1_led a by exact ite_eq_of (fun hc => (by exfalso; omega)) (fun hc => ite_eq_of (fun hc => absurd hc (by omega)) (fun _ => rfl)))
      · refine w_iload rfl rfl ?_
        refine w_iload rfl rfl ?_
        refine w_icmp_gtZ (b := 4) rfl rfl (by decide) (fun h4 => ?_) (fun h4 => ?_)
        · refine w_pushI rfl ?_
          refine w_iret rfl (Or.inr ⟨rfl, by decide⟩) ?_
          show gW _ _ _ _ _ _ _ _ _ _
          refine w_if_eq rfl (fun _ => ?_) (fun h => absurd (by decide) h)
          refine w_pushI rfl ?_
          refine w_iret rfl (Or.inl rfl) ?_
          exact congrArg (fun v => some (Value.int v)) (show ((-1) : Int32) = f1_led a by exact ite_eq_of (fun hc => absurd hc (by omega)) (fun _ => ite_eq_of (fun hc => (by exfalso; omega)) (fun hc => rfl)))
        · refine w_pushI rfl ?_
          refine w_goto rfl ?_
          refine w_iret rfl (Or.inr ⟨rfl, by decide⟩) ?_
          show gW _ _ _ _ _ _ _ _ _ _
          refine w_if_eq rfl (fun h => absurd h (by decide)) (fun _ => ?_)
          refine w_aload rfl rfl ?_
          refine w_getR (r := 77) rfl rfl (hR _ fmR_50_46 (by decide)) ?_
          refine w_iload rfl rfl ?_
          refine w_pushI rfl ?_
          refine w_isub rfl ?_
          rcases (show a.toInt = 1 ∨ a.toInt = 2 ∨ a.toInt = 3 ∨ a.toInt = 4 by omega) with hs5 | hs5 | hs5 | hs5
          · obtain rfl : a = 1 := i_is hs5 (by decide)
            refine w_ialdv (j := 0) (x := 0) rfl rfl (by decide) (by unfold vp_in; decide) (hI _ fmI_77_0 (by decide)) ?_
            refine w_goto rfl ?_
            refine w_iret rfl (Or.inl rfl) ?_
            exact congrArg (fun v => some (Value.int v)) (show (0 : Int32) = f1_led (1) by have e0 : (1 : Int32).toInt = 1 := rfl; exact ite_eq_of (fun _ => rfl) (fun hc => absurd (by omega) hc))
          · obtain rfl : a = 2 := i_is hs5 (by decide)
            refine w_ialdv (j := 1) (x := 0) rfl rfl (by decide) (by unfold vp_in; decide) (hI _ fmI_77_1 (by decide)) ?_
            refine w_goto rfl ?_
            refine w_iret rfl (Or.inl rfl) ?_
            exact congrArg (fun v => some (Value.int v)) (show (0 : Int32) = f1_led (2) by have e0 : (2 : Int32).toInt = 2 := rfl; exact ite_eq_of (fun _ => rfl) (fun hc => absurd (by omega) hc))
          · obtain rfl : a = 3 := i_is hs5 (by decide)
            refine w_ialdv (j := 2) (x := 0) rfl rfl (by decide) (by unfold vp_in; decide) (hI _ fmI_77_2 (by decide)) ?_
            refine w_goto rfl ?_
            refine w_iret rfl (Or.inl rfl) ?_
            exact congrArg (fun v => some (Value.int v)) (show (0 : Int32) = f1_led (3) by have e0 : (3 : Int32).toInt = 3 := rfl; exact ite_eq_of (fun _ => rfl) (fun hc => absurd (by omega) hc))
          · obtain rfl : a = 4 := i_is hs5 (by decide)
            refine w_ialdv (j := 3) (x := 0) rfl rfl (by decide) (by unfold vp_in; decide) (hI _ fmI_77_3 (by decide)) ?_
            refine w_goto rfl ?_
            refine w_iret rfl (Or.inl rfl) ?_
            exact congrArg (fun v => some (Value.int v)) (show (0 : Int32) = f1_led (4) by have e0 : (4 : Int32).toInt = 4 := rfl; exact ite_eq_of (fun _ => rfl) (fun hc => absurd (by omega) hc))
    · obtain rfl : a = 5 := i_is (show a.toInt = 5 by omega) (by decide)
      refine w_aload rfl rfl ?_
      refine w_getIv (x := (-1)) rfl rfl (hI _ fmI_50_44 (by decide)) ?_
      refine w_if_ge rfl (fun h => absurd h (by decide)) (fun _ => ?_)
      refine w_pushI rfl ?_
      refine w_goto rfl ?_
      refine w_iret rfl (Or.inl rfl) ?_
      exact congrArg (fun v => some (Value.int v)) (show ((-2) : Int32) = f1_led (5) by have e0 : (5 : Int32).toInt = 5 := rfl; exact ite_eq_of (fun hc => absurd hc (by omega)) (fun _ => ite_eq_of (fun _ => rfl) (fun hc => absurd (by omega) hc)))
  · obtain rfl : a = 0 := i_is (show a.toInt = 0 by omega) (by decide)
    refine w_aload rfl rfl ?_
    refine w_getIv (x := 0) rfl rfl (hI _ fmI_50_45 (by decide)) ?_
    refine w_iret rfl (Or.inl rfl) ?_
    exact congrArg (fun v => some (Value.int v)) (show (0 : Int32) = f1_led (0) by have e0 : (0 : Int32).toInt = 0 := rfl; exact ite_eq_of (fun _ => rfl) (fun hc => absurd (by omega) hc))
set_option maxHeartbeats 40000000 in
set_option maxRecDepth 100000 in
theorem a1_image {X : Nat × (Nat → Int32)} {d : Nat} {I : Nat → Nat → Int32} {L : Nat → Nat → Int64} {R : Nat → Nat → Option Nat} (hI : ∀ q ∈ gFlI, I q.1 q.2.1 = q.2.2) (hL : ∀ q ∈ gFlL, L q.1 q.2.1 = q.2.2) (hR : ∀ q ∈ gFlR, R q.1 q.2.1 = some q.2.2)  : gW X (d + 12) 129 0 0 0 (gEn 129 [.ref 0]) [] (gK 87, I, L, R) (fun r σ => r = some (.int (f1_image )) ∧ gFr σ I L R) := by
  show gW _ _ _ _ _ _ [some (.ref 0)] _ _ _
  refine w_aload rfl rfl ?_
  refine w_getR (r := 26) rfl rfl (hR _ fmR_0_7) ?_
  refine w_aload rfl rfl ?_
  refine w_getR (r := 23) rfl rfl (hR _ fmR_0_6) ?_
  refine w_callVi (As := [_]) (le := [some _, some _]) rfl rfl rfl (Nat.le_of_ble_eq_true rfl) (Nat.le_of_ble_eq_true rfl) rfl ?_
  refine w_aload rfl rfl ?_
  refine w_getR (r := 24) rfl rfl (hR _ fmR_23_1) ?_
  refine w_pushI rfl ?_
  refine w_aload rfl rfl ?_
  refine w_getR (r := 27) rfl rfl (hR _ fmR_26_1) ?_
  refine w_pushI rfl ?_
  refine w_pushI rfl ?_
  refine w_copyI rfl rfl rfl (by decide) (by decide) (by decide) (by decide) (by decide) (by decide) ?_
  refine w_aload rfl rfl ?_
  refine w_getR (r := 25) rfl rfl (hR _ fmR_23_2) ?_
  refine w_pushI rfl ?_
  refine w_aload rfl rfl ?_
  refine w_getR (r := 28) rfl rfl (hR _ fmR_26_2) ?_
  refine w_pushI rfl ?_
  refine w_pushI rfl ?_
  refine w_copyI rfl rfl rfl (by decide) (by decide) (by decide) (by decide) (by decide) (by decide) ?_
  refine w_aload rfl rfl ?_
  refine w_aload rfl rfl ?_
  refine w_getIv (x := 0) rfl rfl ((gCopy_n (by decide)).trans ((gCopy_n (by decide)).trans (hI _ fmI_23_3))) ?_
  refine w_putI rfl rfl ?_
  refine w_aload rfl rfl ?_
  refine w_aload rfl rfl ?_
  refine w_getIv (x := (-1)) rfl rfl ((gU_n (by decide)).trans ((gCopy_n (by decide)).trans ((gCopy_n (by decide)).trans (hI _ fmI_23_4)))) ?_
  refine w_putI rfl rfl ?_
  refine w_aload rfl rfl ?_
  refine w_aload rfl rfl ?_
  refine w_getIv (x := 0) rfl rfl ((gU_n (by decide)).trans ((gU_n (by decide)).trans ((gCopy_n (by decide)).trans ((gCopy_n (by decide)).trans (hI _ fmI_23_5))))) ?_
  refine w_putI rfl rfl ?_
  refine w_aload rfl rfl ?_
  refine w_aload rfl rfl ?_
  refine w_getIv (x := 0) rfl rfl ((gU_n (by decide)).trans ((gU_n (by decide)).trans ((gU_n (by decide)).trans ((gCopy_n (by decide)).trans ((gCopy_n (by decide)).trans (hI _ fmI_23_6)))))) ?_
  refine w_putI rfl rfl ?_
  refine w_aload rfl rfl ?_
  refine w_aload rfl rfl ?_
  refine w_getIv (x := 0) rfl rfl ((gU_n (by decide)).trans ((gU_n (by decide)).trans ((gU_n (by decide)).trans ((gU_n (by decide)).trans ((gCopy_n (by decide)).trans ((gCopy_n (by decide)).trans (hI _ fmI_23_7))))))) ?_
  refine w_putI rfl rfl ?_
  refine w_aload rfl rfl ?_
  refine w_aload rfl rfl ?_
  refine w_getIv (x := 0) rfl rfl ((gU_n (by decide)).trans ((gU_n (by decide)).trans ((gU_n (by decide)).trans ((gU_n (by decide)).trans ((gU_n (by decide)).trans ((gCopy_n (by decide)).trans ((gCopy_n (by decide)).trans (hI _ fmI_23_8)))))))) ?_
  refine w_putI rfl rfl ?_
  refine w_vret rfl rfl ?_
  show gW _ _ _ _ _ _ _ _ _ _
  refine w_aload rfl rfl ?_
  refine w_pushI rfl ?_
  refine w_putZ rfl rfl (by decide) ?_
  refine w_aload rfl rfl ?_
  refine w_getR (r := 23) rfl rfl (hR _ fmR_0_6) ?_
  refine w_getIv (x := 0) rfl rfl ((gU_n (by decide)).trans ((gU_n (by decide)).trans ((gU_n (by decide)).trans ((gU_n (by decide)).trans ((gU_n (by decide)).trans ((gU_n (by decide)).trans ((gU_n (by decide)).trans ((gCopy_n (by decide)).trans ((gCopy_n (by decide)).trans (hI _ fmI_23_3)))))))))) ?_
  refine w_iret rfl (Or.inl rfl) ?_
  exact ⟨congrArg (fun v => some (Value.int v)) (show (0 : Int32) = f1_image  by exact rfl), rfl, fun x hx => (gU_o (by omega)).trans ((gU_o (by omega)).trans ((gU_o (by omega)).trans ((gU_o (by omega)).trans ((gU_o (by omega)).trans ((gU_o (by omega)).trans ((gU_o (by omega)).trans ((gCopy_o (by omega)).trans (gCopy_o (by omega))))))))), fun x hx => rfl, fun x hx => rfl⟩
set_option maxHeartbeats 40000000 in
set_option maxRecDepth 100000 in
theorem a2_image {X : Nat × (Nat → Int32)} {d : Nat} {I : Nat → Nat → Int32} {L : Nat → Nat → Int64} {R : Nat → Nat → Option Nat} (hI : ∀ q ∈ gFlI, 50 ≤ q.1 → I q.1 q.2.1 = q.2.2) (hL : ∀ q ∈ gFlL, 50 ≤ q.1 → L q.1 q.2.1 = q.2.2) (hR : ∀ q ∈ gFlR, 50 ≤ q.1 → R q.1 q.2.1 = some q.2.2)  : gW X (d + 12) 228 0 0 0 (gEn 228 [.ref 50]) [] (gK 87, I, L, R) (fun r _ => r = some (.int (f1_image ))) := by
  show gW _ _ _ _ _ _ [some (.ref 50), none] _ _ _
  refine w_aload rfl rfl ?_
  refine w_pushI rfl ?_
  refine w_putZ rfl rfl (by decide) ?_
  refine w_aload rfl rfl ?_
  refine w_aload rfl rfl ?_
  refine w_getIv (x := 0) rfl rfl ((gU_n (by decide)).trans (hI _ fmI_50_1 (by decide))) ?_
  refine w_putI rfl rfl ?_
  refine w_aload rfl rfl ?_
  refine w_aload rfl rfl ?_
  refine w_getIv (x := (-1)) rfl rfl ((gU_n (by decide)).trans ((gU_n (by decide)).trans (hI _ fmI_50_44 (by decide)))) ?_
  refine w_putI rfl rfl ?_
  refine w_aload rfl rfl ?_
  refine w_aload rfl rfl ?_
  refine w_getIv (x := 0) rfl rfl ((gU_n (by decide)).trans ((gU_n (by decide)).trans ((gU_n (by decide)).trans (hI _ fmI_50_45 (by decide))))) ?_
  refine w_putI rfl rfl ?_
  refine w_pushI rfl ?_
  refine w_istore rfl rfl ?_
  refine w_iload rfl rfl ?_
  refine w_aload rfl rfl ?_
  refine w_getIv (x := 0) rfl rfl ((gU_n (by decide)).trans ((gU_n (by decide)).trans ((gU_n (by decide)).trans ((gU_n (by decide)).trans (hI _ fmI_50_1 (by decide)))))) ?_
  refine w_icmp_ge rfl (fun _ => ?_) (fun h => absurd (by decide) h)
  refine w_pushI rfl ?_
  refine w_istore rfl rfl ?_
  refine w_iload rfl rfl ?_
  refine w_pushI rfl ?_
  refine w_icmp_ge rfl (fun h => absurd h (by decide)) (fun _ => ?_)
  refine w_aload rfl rfl ?_
  refine w_getR (r := 80) rfl rfl (hR _ fmR_50_53 (by decide)) ?_
  refine w_iload rfl rfl ?_
  refine w_aload rfl rfl ?_
  refine w_getR (r := 77) rfl rfl (hR _ fmR_50_46 (by decide)) ?_
  refine w_iload rfl rfl ?_
  refine w_ialdv (j := 0) (x := 0) rfl rfl (by decide) (by unfold vp_in; decide) ((gU_n (by decide)).trans ((gU_n (by decide)).trans ((gU_n (by decide)).trans ((gU_n (by decide)).trans (hI _ fmI_77_0 (by decide)))))) ?_
  refine w_iastv (j := 0) rfl rfl (by decide) (by unfold vp_in; decide) rfl ?_
  refine w_iincv (z := 1) rfl rfl (by decide) rfl ?_
  refine w_goto rfl ?_
  refine w_iload rfl rfl ?_
  refine w_pushI rfl ?_
  refine w_icmp_ge rfl (fun h => absurd h (by decide)) (fun _ => ?_)
  refine w_aload rfl rfl ?_
  refine w_getR (r := 80) rfl rfl (hR _ fmR_50_53 (by decide)) ?_
  refine w_iload rfl rfl ?_
  refine w_aload rfl rfl ?_
  refine w_getR (r := 77) rfl rfl (hR _ fmR_50_46 (by decide)) ?_
  refine w_iload rfl rfl ?_
  refine w_ialdv (j := 1) (x := 0) rfl rfl (by decide) (by unfold vp_in; decide) ((gU_n (by decide)).trans ((gU_n (by decide)).trans ((gU_n (by decide)).trans ((gU_n (by decide)).trans ((gU_n (by decide)).trans (hI _ fmI_77_1 (by decide))))))) ?_
  refine w_iastv (j := 1) rfl rfl (by decide) (by unfold vp_in; decide) rfl ?_
  refine w_iincv (z := 2) rfl rfl (by decide) rfl ?_
  refine w_goto rfl ?_
  refine w_iload rfl rfl ?_
  refine w_pushI rfl ?_
  refine w_icmp_ge rfl (fun h => absurd h (by decide)) (fun _ => ?_)
  refine w_aload rfl rfl ?_
  refine w_getR (r := 80) rfl rfl (hR _ fmR_50_53 (by decide)) ?_
  refine w_iload rfl rfl ?_
  refine w_aload rfl rfl ?_
  refine w_getR (r := 77) rfl rfl (hR _ fmR_50_46 (by decide)) ?_
  refine w_iload rfl rfl ?_
  refine w_ialdv (j := 2) (x := 0) rfl rfl (by decide) (by unfold vp_in; decide) ((gU_n (by decide)).trans ((gU_n (by decide)).trans ((gU_n (by decide)).trans ((gU_n (by decide)).trans ((gU_n (by decide)).trans ((gU_n (by decide)).trans (hI _ fmI_77_2 (by decide)))))))) ?_
  refine w_iastv (j := 2) rfl rfl (by decide) (by unfold vp_in; decide) rfl ?_
  refine w_iincv (z := 3) rfl rfl (by decide) rfl ?_
  refine w_goto rfl ?_
  refine w_iload rfl rfl ?_
  refine w_pushI rfl ?_
  refine w_icmp_ge rfl (fun h => absurd h (by decide)) (fun _ => ?_)
  refine w_aload rfl rfl ?_
  refine w_getR (r := 80) rfl rfl (hR _ fmR_50_53 (by decide)) ?_
  refine w_iload rfl rfl ?_
  refine w_aload rfl rfl ?_
  refine w_getR (r := 77) rfl rfl (hR _ fmR_50_46 (by decide)) ?_
  refine w_iload rfl rfl ?_
  refine w_ialdv (j := 3) (x := 0) rfl rfl (by decide) (by unfold vp_in; decide) ((gU_n (by decide)).trans ((gU_n (by decide)).trans ((gU_n (by decide)).trans ((gU_n (by decide)).trans ((gU_n (by decide)).trans ((gU_n (by decide)).trans ((gU_n (by decide)).trans (hI _ fmI_77_3 (by decide))))))))) ?_
  refine w_iastv (j := 3) rfl rfl (by decide) (by unfold vp_in; decide) rfl ?_
  refine w_iincv (z := 4) rfl rfl (by decide) rfl ?_
  refine w_goto rfl ?_
  refine w_iload rfl rfl ?_
  refine w_pushI rfl ?_
  refine w_icmp_ge rfl (fun _ => ?_) (fun h => absurd (by decide) h)
  refine w_aload rfl rfl ?_
  refine w_getIv (x := 0) rfl rfl ((gU_n (by decide)).trans ((gU_n (by decide)).trans ((gU_n (by decide)).trans ((gU_n (by decide)).trans ((gU_n (by decide)).trans ((gU_n (by decide)).trans ((gU_n (by decide)).trans ((gU_n (by decide)).trans (hI _ fmI_50_45 (by decide)))))))))) ?_
  refine w_iret rfl (Or.inl rfl) ?_
  exact congrArg (fun v => some (Value.int v)) (show (0 : Int32) = f1_image  by exact rfl)
set_option maxHeartbeats 40000000 in
set_option maxRecDepth 100000 in
theorem a1_back {X : Nat × (Nat → Int32)} {d : Nat} {I : Nat → Nat → Int32} {L : Nat → Nat → Int64} {R : Nat → Nat → Option Nat} (hI : ∀ q ∈ gFlI, I q.1 q.2.1 = q.2.2) (hL : ∀ q ∈ gFlL, L q.1 q.2.1 = q.2.2) (hR : ∀ q ∈ gFlR, R q.1 q.2.1 = some q.2.2)  : gW X (d + 12) 130 0 0 0 (gEn 130 [.ref 0]) [] (gK 87, I, L, R) (fun r σ => r = some (.int (f1_back )) ∧ gFr σ I L R) := by
  show gW _ _ _ _ _ _ [some (.ref 0)] _ _ _
  refine w_aload rfl rfl ?_
  refine w_getIv (x := 0) rfl rfl (hI _ fmI_0_8) ?_
  refine w_if_ne rfl (fun h => absurd (by decide) h) (fun _ => ?_)
  refine w_pushI rfl ?_
  refine w_iret rfl (Or.inl rfl) ?_
  exact ⟨congrArg (fun v => some (Value.int v)) (show ((-5) : Int32) = f1_back  by exact rfl), rfl, fun x hx => rfl, fun x hx => rfl, fun x hx => rfl⟩
set_option maxHeartbeats 40000000 in
set_option maxRecDepth 100000 in
theorem a2_back {X : Nat × (Nat → Int32)} {d : Nat} {I : Nat → Nat → Int32} {L : Nat → Nat → Int64} {R : Nat → Nat → Option Nat} (hI : ∀ q ∈ gFlI, 50 ≤ q.1 → I q.1 q.2.1 = q.2.2) (hL : ∀ q ∈ gFlL, 50 ≤ q.1 → L q.1 q.2.1 = q.2.2) (hR : ∀ q ∈ gFlR, 50 ≤ q.1 → R q.1 q.2.1 = some q.2.2)  : gW X (d + 12) 229 0 0 0 (gEn 229 [.ref 50]) [] (gK 87, I, L, R) (fun r _ => r = some (.int (f1_back ))) := by
  show gW _ _ _ _ _ _ [some (.ref 50), none] _ _ _
  refine w_aload rfl rfl ?_
  refine w_getIv (x := 0) rfl rfl (hI _ fmI_50_47 (by decide)) ?_
  refine w_if_ne rfl (fun h => absurd (by decide) h) (fun _ => ?_)
  refine w_pushI rfl ?_
  refine w_iret rfl (Or.inl rfl) ?_
  exact congrArg (fun v => some (Value.int v)) (show ((-5) : Int32) = f1_back  by exact rfl)
set_option maxHeartbeats 40000000 in
set_option maxRecDepth 100000 in
theorem a1_undo {X : Nat × (Nat → Int32)} {d : Nat} {I : Nat → Nat → Int32} {L : Nat → Nat → Int64} {R : Nat → Nat → Option Nat} (hI : ∀ q ∈ gFlI, I q.1 q.2.1 = q.2.2) (hL : ∀ q ∈ gFlL, L q.1 q.2.1 = q.2.2) (hR : ∀ q ∈ gFlR, R q.1 q.2.1 = some q.2.2)  : gW X (d + 12) 131 0 0 0 (gEn 131 [.ref 0]) [] (gK 87, I, L, R) (fun r σ => r = some (.int (f1_undo )) ∧ gFr σ I L R) := by
  show gW _ _ _ _ _ _ [some (.ref 0)] _ _ _
  refine w_aload rfl rfl ?_
  refine w_getR (r := 29) rfl rfl (hR _ fmR_0_9) ?_
  refine w_callVi (As := []) (le := [some _]) rfl rfl rfl (Nat.le_of_ble_eq_true rfl) (Nat.le_of_ble_eq_true rfl) rfl ?_
  refine w_aload rfl rfl ?_
  refine w_getIv (x := 0) rfl rfl (hI _ fmI_29_5) ?_
  refine w_if_gt rfl (fun h => absurd h (by decide)) (fun _ => ?_)
  refine w_pushI rfl ?_
  refine w_iret rfl (Or.inr ⟨rfl, by decide⟩) ?_
  show gW _ _ _ _ _ _ _ _ _ _
  refine w_if_eq rfl (fun _ => ?_) (fun h => absurd (by decide) h)
  refine w_pushI rfl ?_
  refine w_iret rfl (Or.inl rfl) ?_
  exact ⟨congrArg (fun v => some (Value.int v)) (show ((-5) : Int32) = f1_undo  by exact rfl), rfl, fun x hx => rfl, fun x hx => rfl, fun x hx => rfl⟩
set_option maxHeartbeats 40000000 in
set_option maxRecDepth 100000 in
theorem a2_undo {X : Nat × (Nat → Int32)} {d : Nat} {I : Nat → Nat → Int32} {L : Nat → Nat → Int64} {R : Nat → Nat → Option Nat} (hI : ∀ q ∈ gFlI, 50 ≤ q.1 → I q.1 q.2.1 = q.2.2) (hL : ∀ q ∈ gFlL, 50 ≤ q.1 → L q.1 q.2.1 = q.2.2) (hR : ∀ q ∈ gFlR, 50 ≤ q.1 → R q.1 q.2.1 = some q.2.2)  : gW X (d + 12) 158 0 0 0 (gEn 158 [.ref 50]) [] (gK 87, I, L, R) (fun r _ => r = some (.int (f1_undo ))) := by
  show gW _ _ _ _ _ _ [some (.ref 50)] _ _ _
  refine w_aload rfl rfl ?_
  refine w_getIv (x := 0) rfl rfl (hI _ fmI_50_8 (by decide)) ?_
  refine w_if_ne rfl (fun h => absurd (by decide) h) (fun _ => ?_)
  refine w_pushI rfl ?_
  refine w_iret rfl (Or.inl rfl) ?_
  exact congrArg (fun v => some (Value.int v)) (show ((-5) : Int32) = f1_undo  by exact rfl)
set_option maxHeartbeats 40000000 in
set_option maxRecDepth 100000 in
theorem a1_redo {X : Nat × (Nat → Int32)} {d : Nat} {I : Nat → Nat → Int32} {L : Nat → Nat → Int64} {R : Nat → Nat → Option Nat} (hI : ∀ q ∈ gFlI, I q.1 q.2.1 = q.2.2) (hL : ∀ q ∈ gFlL, L q.1 q.2.1 = q.2.2) (hR : ∀ q ∈ gFlR, R q.1 q.2.1 = some q.2.2)  : gW X (d + 12) 132 0 0 0 (gEn 132 [.ref 0]) [] (gK 87, I, L, R) (fun r σ => r = some (.int (f1_redo )) ∧ gFr σ I L R) := by
  show gW _ _ _ _ _ _ [some (.ref 0)] _ _ _
  refine w_aload rfl rfl ?_
  refine w_getR (r := 29) rfl rfl (hR _ fmR_0_9) ?_
  refine w_callVi (As := []) (le := [some _]) rfl rfl rfl (Nat.le_of_ble_eq_true rfl) (Nat.le_of_ble_eq_true rfl) rfl ?_
  refine w_aload rfl rfl ?_
  refine w_getIv (x := 0) rfl rfl (hI _ fmI_29_5) ?_
  refine w_aload rfl rfl ?_
  refine w_getIv (x := 0) rfl rfl (hI _ fmI_29_6) ?_
  refine w_icmp_lt rfl (fun h => absurd h (by decide)) (fun _ => ?_)
  refine w_pushI rfl ?_
  refine w_iret rfl (Or.inr ⟨rfl, by decide⟩) ?_
  show gW _ _ _ _ _ _ _ _ _ _
  refine w_if_eq rfl (fun _ => ?_) (fun h => absurd (by decide) h)
  refine w_pushI rfl ?_
  refine w_iret rfl (Or.inl rfl) ?_
  exact ⟨congrArg (fun v => some (Value.int v)) (show ((-5) : Int32) = f1_redo  by exact rfl), rfl, fun x hx => rfl, fun x hx => rfl, fun x hx => rfl⟩
set_option maxHeartbeats 40000000 in
set_option maxRecDepth 100000 in
theorem a2_redo {X : Nat × (Nat → Int32)} {d : Nat} {I : Nat → Nat → Int32} {L : Nat → Nat → Int64} {R : Nat → Nat → Option Nat} (hI : ∀ q ∈ gFlI, 50 ≤ q.1 → I q.1 q.2.1 = q.2.2) (hL : ∀ q ∈ gFlL, 50 ≤ q.1 → L q.1 q.2.1 = q.2.2) (hR : ∀ q ∈ gFlR, 50 ≤ q.1 → R q.1 q.2.1 = some q.2.2)  : gW X (d + 12) 159 0 0 0 (gEn 159 [.ref 50]) [] (gK 87, I, L, R) (fun r _ => r = some (.int (f1_redo ))) := by
  show gW _ _ _ _ _ _ [some (.ref 50)] _ _ _
  refine w_aload rfl rfl ?_
  refine w_getIv (x := 0) rfl rfl (hI _ fmI_50_9 (by decide)) ?_
  refine w_if_ne rfl (fun h => absurd (by decide) h) (fun _ => ?_)
  refine w_pushI rfl ?_
  refine w_iret rfl (Or.inl rfl) ?_
  exact congrArg (fun v => some (Value.int v)) (show ((-5) : Int32) = f1_redo  by exact rfl)
set_option maxHeartbeats 40000000 in
set_option maxRecDepth 100000 in
theorem a1_body {X : Nat × (Nat → Int32)} {d : Nat} {I : Nat → Nat → Int32} {L : Nat → Nat → Int64} {R : Nat → Nat → Option Nat} (hI : ∀ q ∈ gFlI, I q.1 q.2.1 = q.2.2) (hL : ∀ q ∈ gFlL, L q.1 q.2.1 = q.2.2) (hR : ∀ q ∈ gFlR, R q.1 q.2.1 = some q.2.2) (a : Int32) : gW X (d + 12) 133 0 0 0 (gEn 133 [.ref 0, .int a]) [] (gK 87, I, L, R) (fun r σ => r = some (.int (f1_body a)) ∧ gFr σ I L R) := by
  show gW _ _ _ _ _ _ [some (.ref 0), some (.int a)] _ _ _
  refine w_iload rfl rfl ?_
  refine w_callSi (As := [_]) (le := [some _]) rfl rfl (Nat.le_of_ble_eq_true rfl) (Nat.le_of_ble_eq_true rfl) rfl ?_
  refine w_iload rfl rfl ?_
  refine w_if_ltZ rfl rfl (fun h1 => ?_) (fun h1 => ?_)
  · refine w_pushI rfl ?_
    refine w_iret rfl (Or.inr ⟨rfl, by decide⟩) ?_
    show gW _ _ _ _ _ _ _ _ _ _
    refine w_if_ne rfl (fun h => absurd (by decide) h) (fun _ => ?_)
    refine w_pushI rfl ?_
    refine w_iret rfl (Or.inl rfl) ?_
    exact ⟨congrArg (fun v => some (Value.int v)) (show ((-1) : Int32) = f1_body a by exact ite_eq_of (fun hc => absurd hc (by omega)) (fun _ => rfl)), rfl, fun x hx => rfl, fun x hx => rfl, fun x hx => rfl⟩
  · refine w_iload rfl rfl ?_
    refine w_pushI rfl ?_
    refine w_icmp_geZ (b := 8) rfl rfl (by decide) (fun h2 => ?_) (fun h2 => ?_)
    · refine w_pushI rfl ?_
      refine w_iret rfl (Or.inr ⟨rfl, by decide⟩) ?_
      show gW _ _ _ _ _ _ _ _ _ _
      refine w_if_ne rfl (fun h => absurd (by decide) h) (fun _ => ?_)
      refine w_pushI rfl ?_
      refine w_iret rfl (Or.inl rfl) ?_
      exact ⟨congrArg (fun v => some (Value.int v)) (show ((-1) : Int32) = f1_body a by exact ite_eq_of (fun hc => absurd hc (by omega)) (fun _ => rfl)), rfl, fun x hx => rfl, fun x hx => rfl, fun x hx => rfl⟩
    · refine w_pushI rfl ?_
      refine w_goto rfl ?_
      refine w_iret rfl (Or.inr ⟨rfl, by decide⟩) ?_
      show gW _ _ _ _ _ _ _ _ _ _
      refine w_if_ne rfl (fun _ => ?_) (fun h => absurd h (by decide))
      refine w_aload rfl rfl ?_
      refine w_getR (r := 34) rfl rfl (hR _ fmR_0_10) ?_
      refine w_iload rfl rfl ?_
      refine w_callVi (As := [_]) (le := [some _, some _]) rfl rfl rfl (Nat.le_of_ble_eq_true rfl) (Nat.le_of_ble_eq_true rfl) rfl ?_
      refine w_aload rfl rfl ?_
      refine w_getIv (x := 0) rfl rfl (hI _ fmI_34_1) ?_
      refine w_pushI rfl ?_
      refine w_icmp_lt rfl (fun _ => ?_) (fun h => absurd (by decide) h)
      refine w_aload rfl rfl ?_
      refine w_getR (r := 35) rfl rfl (hR _ fmR_34_0) ?_
      refine w_aload rfl rfl ?_
      refine w_getIv (x := 0) rfl rfl (hI _ fmI_34_1) ?_
      refine w_iload rfl rfl ?_
      refine w_iastv (j := 0) rfl rfl (by decide) (by unfold vp_in; decide) rfl ?_
      refine w_aload rfl rfl ?_
      refine w_dup rfl rfl ?_
      refine w_getIv (x := 0) rfl rfl ((gU_n (by decide)).trans (hI _ fmI_34_1)) ?_
      refine w_pushI rfl ?_
      refine w_iaddv (z := 1) rfl (by decide) ?_
      refine w_putI rfl rfl ?_
      refine w_aload rfl rfl ?_
      refine w_getIv (x := 1) rfl rfl (gU_e) ?_
      refine w_pushI rfl ?_
      refine w_isubv (z := 0) rfl (by decide) ?_
      refine w_iret rfl (Or.inl rfl) ?_
      show gW _ _ _ _ _ _ _ _ _ _
      refine w_iret rfl (Or.inl rfl) ?_
      exact ⟨congrArg (fun v => some (Value.int v)) (show (0 : Int32) = f1_body a by exact ite_eq_of (fun _ => rfl) (fun hc => absurd (by omega) hc)), rfl, fun x hx => (gU_o (by omega)).trans (gU_o (by omega)), fun x hx => rfl, fun x hx => rfl⟩
set_option maxHeartbeats 40000000 in
set_option maxRecDepth 100000 in
theorem a2_body {X : Nat × (Nat → Int32)} {d : Nat} {I : Nat → Nat → Int32} {L : Nat → Nat → Int64} {R : Nat → Nat → Option Nat} (hI : ∀ q ∈ gFlI, 50 ≤ q.1 → I q.1 q.2.1 = q.2.2) (hL : ∀ q ∈ gFlL, 50 ≤ q.1 → L q.1 q.2.1 = q.2.2) (hR : ∀ q ∈ gFlR, 50 ≤ q.1 → R q.1 q.2.1 = some q.2.2) (a : Int32) : gW X (d + 12) 233 0 0 0 (gEn 233 [.ref 50, .int a]) [] (gK 87, I, L, R) (fun r _ => r = some (.int (f1_body a))) := by
  show gW _ _ _ _ _ _ [some (.ref 50), some (.int a)] _ _ _
  refine w_iload rfl rfl ?_
  refine w_pushI rfl ?_
  refine w_pushI rfl ?_
  refine w_callSi (As := [_, _, _]) (le := [some _, some _, some _]) rfl rfl (Nat.le_of_ble_eq_true rfl) (Nat.le_of_ble_eq_true rfl) rfl ?_
  refine w_iload rfl rfl ?_
  refine w_iload rfl rfl ?_
  refine w_icmp_ltZ (b := 0) rfl rfl (by decide) (fun h1 => ?_) (fun h1 => ?_)
  · refine w_pushI rfl ?_
    refine w_iret rfl (Or.inr ⟨rfl, by decide⟩) ?_
    show gW _ _ _ _ _ _ _ _ _ _
    refine w_if_ne rfl (fun h => absurd (by decide) h) (fun _ => ?_)
    refine w_pushI rfl ?_
    refine w_iret rfl (Or.inl rfl) ?_
    exact congrArg (fun v => some (Value.int v)) (show ((-1) : Int32) = f1_body a by exact ite_eq_of (fun hc => absurd hc (by omega)) (fun _ => rfl))
  · refine w_iload rfl rfl ?_
    refine w_iload rfl rfl ?_
    refine w_icmp_gtZ (b := 7) rfl rfl (by decide) (fun h2 => ?_) (fun h2 => ?_)
    · refine w_pushI rfl ?_
      refine w_iret rfl (Or.inr ⟨rfl, by decide⟩) ?_
      show gW _ _ _ _ _ _ _ _ _ _
      refine w_if_ne rfl (fun h => absurd (by decide) h) (fun _ => ?_)
      refine w_pushI rfl ?_
      refine w_iret rfl (Or.inl rfl) ?_
      exact congrArg (fun v => some (Value.int v)) (show ((-1) : Int32) = f1_body a by exact ite_eq_of (fun hc => absurd hc (by omega)) (fun _ => rfl))
    · refine w_pushI rfl ?_
      refine w_goto rfl ?_
      refine w_iret rfl (Or.inr ⟨rfl, by decide⟩) ?_
      show gW _ _ _ _ _ _ _ _ _ _
      refine w_if_ne rfl (fun _ => ?_) (fun h => absurd h (by decide))
      refine w_aload rfl rfl ?_
      refine w_getIv (x := 0) rfl rfl (hI _ fmI_50_54 (by decide)) ?_
      refine w_pushI rfl ?_
      refine w_icmp_ne rfl (fun _ => ?_) (fun h => absurd h (by decide))
      refine w_aload rfl rfl ?_
      refine w_getR (r := 81) rfl rfl (hR _ fmR_50_55 (by decide)) ?_
      refine w_aload rfl rfl ?_
      refine w_getIv (x := 0) rfl rfl (hI _ fmI_50_54 (by decide)) ?_
      refine w_iload rfl rfl ?_
      refine w_iastv (j := 0) rfl rfl (by decide) (by unfold vp_in; decide) rfl ?_
      refine w_aload rfl rfl ?_
      refine w_dup rfl rfl ?_
      refine w_getIv (x := 0) rfl rfl ((gU_n (by decide)).trans (hI _ fmI_50_54 (by decide))) ?_
      refine w_pushI rfl ?_
      refine w_iaddv (z := 1) rfl (by decide) ?_
      refine w_putI rfl rfl ?_
      refine w_aload rfl rfl ?_
      refine w_getIv (x := 1) rfl rfl (gU_e) ?_
      refine w_pushI rfl ?_
      refine w_isubv (z := 0) rfl (by decide) ?_
      refine w_iret rfl (Or.inl rfl) ?_
      exact congrArg (fun v => some (Value.int v)) (show (0 : Int32) = f1_body a by exact ite_eq_of (fun _ => rfl) (fun hc => absurd (by omega) hc))
set_option maxHeartbeats 40000000 in
set_option maxRecDepth 100000 in
theorem a1_act {X : Nat × (Nat → Int32)} {d : Nat} {I : Nat → Nat → Int32} {L : Nat → Nat → Int64} {R : Nat → Nat → Option Nat} (hI : ∀ q ∈ gFlI, I q.1 q.2.1 = q.2.2) (hL : ∀ q ∈ gFlL, L q.1 q.2.1 = q.2.2) (hR : ∀ q ∈ gFlR, R q.1 q.2.1 = some q.2.2) (a : Int32) (b : Int32) (c : Int32) : gW X (d + 12) 134 0 0 0 (gEn 134 [.ref 0, .int a, .int b, .int c]) [] (gK 87, I, L, R) (fun r σ => r = some (.int (f1_act a b c)) ∧ gFr σ I L R) := by
  show gW _ _ _ _ _ _ [some (.ref 0), some (.int a), some (.int b), some (.int c)] _ _ _
  refine w_aload rfl rfl ?_
  refine w_getR (r := 34) rfl rfl (hR _ fmR_0_10) ?_
  refine w_iload rfl rfl ?_
  refine w_iload rfl rfl ?_
  refine w_iload rfl rfl ?_
  refine w_callVi (As := [_, _, _]) (le := [some _, some _, some _, some _]) rfl rfl rfl (Nat.le_of_ble_eq_true rfl) (Nat.le_of_ble_eq_true rfl) rfl ?_
  refine w_aload rfl rfl ?_
  refine w_pushI rfl ?_
  refine w_putI rfl rfl ?_
  refine w_aload rfl rfl ?_
  refine w_iload rfl rfl ?_
  refine w_callVi (As := [_]) (le := [some _, some _]) rfl rfl rfl (Nat.le_of_ble_eq_true rfl) (Nat.le_of_ble_eq_true rfl) rfl ?_
  refine w_iload rfl rfl ?_
  refine w_if_ltZ rfl rfl (fun h1 => ?_) (fun h1 => ?_)
  · refine w_pushI rfl ?_
    refine w_iret rfl (Or.inr ⟨rfl, by decide⟩) ?_
    show gW _ _ _ _ _ _ _ _ _ _
    refine w_if_eq rfl (fun _ => ?_) (fun h => absurd (by decide) h)
    refine w_pushI rfl ?_
    refine w_iret rfl (Or.inl rfl) ?_
    show gW _ _ _ _ _ _ _ _ _ _
    refine w_iret rfl (Or.inl rfl) ?_
    exact ⟨congrArg (fun v => some (Value.int v)) (show (0 : Int32) = f1_act a b c by exact rfl), rfl, fun x hx => gU_o (by omega), fun x hx => rfl, fun x hx => rfl⟩
  · refine w_iload rfl rfl ?_
    refine w_aload rfl rfl ?_
    refine w_getIv (x := 0) rfl rfl ((gU_n (by decide)).trans (hI _ fmI_34_1)) ?_
    refine w_icmp_geZ (b := 0) rfl rfl (by decide) (fun h2 => ?_) (fun h2 => by exfalso; omega)
    refine w_pushI rfl ?_
    refine w_iret rfl (Or.inr ⟨rfl, by decide⟩) ?_
    show gW _ _ _ _ _ _ _ _ _ _
    refine w_if_eq rfl (fun _ => ?_) (fun h => absurd (by decide) h)
    refine w_pushI rfl ?_
    refine w_iret rfl (Or.inl rfl) ?_
    show gW _ _ _ _ _ _ _ _ _ _
    refine w_iret rfl (Or.inl rfl) ?_
    exact ⟨congrArg (fun v => some (Value.int v)) (show (0 : Int32) = f1_act a b c by exact rfl), rfl, fun x hx => gU_o (by omega), fun x hx => rfl, fun x hx => rfl⟩
set_option maxHeartbeats 40000000 in
set_option maxRecDepth 100000 in
theorem a2_act {X : Nat × (Nat → Int32)} {d : Nat} {I : Nat → Nat → Int32} {L : Nat → Nat → Int64} {R : Nat → Nat → Option Nat} (hI : ∀ q ∈ gFlI, 50 ≤ q.1 → I q.1 q.2.1 = q.2.2) (hL : ∀ q ∈ gFlL, 50 ≤ q.1 → L q.1 q.2.1 = q.2.2) (hR : ∀ q ∈ gFlR, 50 ≤ q.1 → R q.1 q.2.1 = some q.2.2) (a : Int32) (b : Int32) (c : Int32) : gW X (d + 12) 246 0 0 0 (gEn 246 [.ref 50, .int a, .int b, .int c]) [] (gK 87, I, L, R) (fun r _ => r = some (.int (f1_act a b c))) := by
  show gW _ _ _ _ _ _ [some (.ref 50), some (.int a), some (.int b), some (.int c)] _ _ _
  refine w_aload rfl rfl ?_
  refine w_pushI rfl ?_
  refine w_putI rfl rfl ?_
  refine w_aload rfl rfl ?_
  refine w_iload rfl rfl ?_
  refine w_callVi (As := [_]) (le := [some _, some _]) rfl rfl rfl (Nat.le_of_ble_eq_true rfl) (Nat.le_of_ble_eq_true rfl) rfl ?_
  refine w_iload rfl rfl ?_
  refine w_pushI rfl ?_
  refine w_aload rfl rfl ?_
  refine w_getIv (x := 0) rfl rfl ((gU_n (by decide)).trans (hI _ fmI_50_54 (by decide))) ?_
  refine w_pushI rfl ?_
  refine w_isubv (z := (-1)) rfl (by decide) ?_
  refine w_callSi (As := [_, _, _]) (le := [some _, some _, some _]) rfl rfl (Nat.le_of_ble_eq_true rfl) (Nat.le_of_ble_eq_true rfl) rfl ?_
  refine w_iload rfl rfl ?_
  refine w_iload rfl rfl ?_
  refine w_icmp_ltZ (b := 0) rfl rfl (by decide) (fun h1 => ?_) (fun h1 => ?_)
  · refine w_pushI rfl ?_
    refine w_iret rfl (Or.inr ⟨rfl, by decide⟩) ?_
    show gW _ _ _ _ _ _ _ _ _ _
    refine w_iret rfl (Or.inr ⟨rfl, by decide⟩) ?_
    show gW _ _ _ _ _ _ _ _ _ _
    refine w_if_eq rfl (fun _ => ?_) (fun h => absurd (by decide) h)
    refine w_pushI rfl ?_
    refine w_iret rfl (Or.inl rfl) ?_
    exact congrArg (fun v => some (Value.int v)) (show (0 : Int32) = f1_act a b c by exact rfl)
  · refine w_iload rfl rfl ?_
    refine w_iload rfl rfl ?_
    refine w_icmp_gtZ (b := (-1)) rfl rfl (by decide) (fun h2 => ?_) (fun h2 => by exfalso; omega)
    refine w_pushI rfl ?_
    refine w_iret rfl (Or.inr ⟨rfl, by decide⟩) ?_
    show gW _ _ _ _ _ _ _ _ _ _
    refine w_iret rfl (Or.inr ⟨rfl, by decide⟩) ?_
    show gW _ _ _ _ _ _ _ _ _ _
    refine w_if_eq rfl (fun _ => ?_) (fun h => absurd (by decide) h)
    refine w_pushI rfl ?_
    refine w_iret rfl (Or.inl rfl) ?_
    exact congrArg (fun v => some (Value.int v)) (show (0 : Int32) = f1_act a b c by exact rfl)
set_option maxHeartbeats 40000000 in
set_option maxRecDepth 100000 in
theorem a1_trace {X : Nat × (Nat → Int32)} {d : Nat} {I : Nat → Nat → Int32} {L : Nat → Nat → Int64} {R : Nat → Nat → Option Nat} (hI : ∀ q ∈ gFlI, I q.1 q.2.1 = q.2.2) (hL : ∀ q ∈ gFlL, L q.1 q.2.1 = q.2.2) (hR : ∀ q ∈ gFlR, R q.1 q.2.1 = some q.2.2) (a : Int32) : gW X (d + 12) 135 0 0 0 (gEn 135 [.ref 0, .int a]) [] (gK 87, I, L, R) (fun r σ => r = some (.int (f1_trace a)) ∧ gFr σ I L R) := by
  show gW _ _ _ _ _ _ [some (.ref 0), some (.int a)] _ _ _
  refine w_aload rfl rfl ?_
  refine w_getR (r := 34) rfl rfl (hR _ fmR_0_10) ?_
  refine w_iload rfl rfl ?_
  refine w_callVi (As := [_]) (le := [some _, some _]) rfl rfl rfl (Nat.le_of_ble_eq_true rfl) (Nat.le_of_ble_eq_true rfl) rfl ?_
  refine w_iload rfl rfl ?_
  refine w_if_ltZ rfl rfl (fun h1 => ?_) (fun h1 => ?_)
  · refine w_pushI rfl ?_
    refine w_iret rfl (Or.inl rfl) ?_
    show gW _ _ _ _ _ _ _ _ _ _
    refine w_iret rfl (Or.inl rfl) ?_
    exact ⟨congrArg (fun v => some (Value.int v)) (show ((-1) : Int32) = f1_trace a by exact rfl), rfl, fun x hx => rfl, fun x hx => rfl, fun x hx => rfl⟩
  · refine w_iload rfl rfl ?_
    refine w_aload rfl rfl ?_
    refine w_getIv (x := 0) rfl rfl (hI _ fmI_34_3) ?_
    refine w_icmp_geZ (b := 0) rfl rfl (by decide) (fun h2 => ?_) (fun h2 => by exfalso; omega)
    refine w_pushI rfl ?_
    refine w_iret rfl (Or.inl rfl) ?_
    show gW _ _ _ _ _ _ _ _ _ _
    refine w_iret rfl (Or.inl rfl) ?_
    exact ⟨congrArg (fun v => some (Value.int v)) (show ((-1) : Int32) = f1_trace a by exact rfl), rfl, fun x hx => rfl, fun x hx => rfl, fun x hx => rfl⟩
set_option maxHeartbeats 40000000 in
set_option maxRecDepth 100000 in
theorem a2_trace {X : Nat × (Nat → Int32)} {d : Nat} {I : Nat → Nat → Int32} {L : Nat → Nat → Int64} {R : Nat → Nat → Option Nat} (hI : ∀ q ∈ gFlI, 50 ≤ q.1 → I q.1 q.2.1 = q.2.2) (hL : ∀ q ∈ gFlL, 50 ≤ q.1 → L q.1 q.2.1 = q.2.2) (hR : ∀ q ∈ gFlR, 50 ≤ q.1 → R q.1 q.2.1 = some q.2.2) (a : Int32) : gW X (d + 12) 232 0 0 0 (gEn 232 [.ref 50, .int a]) [] (gK 87, I, L, R) (fun r _ => r = some (.int (f1_trace a))) := by
  show gW _ _ _ _ _ _ [some (.ref 50), some (.int a)] _ _ _
  refine w_iload rfl rfl ?_
  refine w_if_ltZ rfl rfl (fun h1 => ?_) (fun h1 => ?_)
  · refine w_pushI rfl ?_
    refine w_iret rfl (Or.inl rfl) ?_
    exact congrArg (fun v => some (Value.int v)) (show ((-1) : Int32) = f1_trace a by exact rfl)
  · refine w_iload rfl rfl ?_
    refine w_aload rfl rfl ?_
    refine w_getIv (x := 0) rfl rfl (hI _ fmI_50_56 (by decide)) ?_
    refine w_icmp_geZ (b := 0) rfl rfl (by decide) (fun h2 => ?_) (fun h2 => by exfalso; omega)
    refine w_pushI rfl ?_
    refine w_iret rfl (Or.inl rfl) ?_
    exact congrArg (fun v => some (Value.int v)) (show ((-1) : Int32) = f1_trace a by exact rfl)
set_option maxHeartbeats 40000000 in
set_option maxRecDepth 100000 in
theorem a1_keep {X : Nat × (Nat → Int32)} {d : Nat} {I : Nat → Nat → Int32} {L : Nat → Nat → Int64} {R : Nat → Nat → Option Nat} (hI : ∀ q ∈ gFlI, I q.1 q.2.1 = q.2.2) (hL : ∀ q ∈ gFlL, L q.1 q.2.1 = q.2.2) (hR : ∀ q ∈ gFlR, R q.1 q.2.1 = some q.2.2) (a : Int32) (b : Int32) : gW X (d + 12) 136 0 0 0 (gEn 136 [.ref 0, .int a, .int b]) [] (gK 87, I, L, R) (fun r σ => r = some (.int (f1_keep a b)) ∧ gFr σ I L R) := by
  show gW _ _ _ _ _ _ [some (.ref 0), some (.int a), some (.int b)] _ _ _
  refine w_iload rfl rfl ?_
  refine w_callSi (As := [_]) (le := [some _]) rfl rfl (Nat.le_of_ble_eq_true rfl) (Nat.le_of_ble_eq_true rfl) rfl ?_
  refine w_iload rfl rfl ?_
  refine w_if_ltZ rfl rfl (fun h1 => ?_) (fun h1 => ?_)
  · refine w_pushI rfl ?_
    refine w_iret rfl (Or.inr ⟨rfl, by decide⟩) ?_
    show gW _ _ _ _ _ _ _ _ _ _
    refine w_if_eq rfl (fun _ => ?_) (fun h => absurd (by decide) h)
    refine w_pushI rfl ?_
    refine w_iret rfl (Or.inl rfl) ?_
    exact ⟨congrArg (fun v => some (Value.int v)) (show ((-1) : Int32) = f1_keep a b by exact ite_eq_of (fun hc => absurd hc (by omega)) (fun _ => rfl)), rfl, fun x hx => rfl, fun x hx => rfl, fun x hx => rfl⟩
  · refine w_iload rfl rfl ?_
    refine w_pushI rfl ?_
    refine w_icmp_geZ (b := 6) rfl rfl (by decide) (fun h2 => ?_) (fun h2 => ?_)
    · refine w_pushI rfl ?_
      refine w_iret rfl (Or.inr ⟨rfl, by decide⟩) ?_
      show gW _ _ _ _ _ _ _ _ _ _
      refine w_if_eq rfl (fun _ => ?_) (fun h => absurd (by decide) h)
      refine w_pushI rfl ?_
      refine w_iret rfl (Or.inl rfl) ?_
      exact ⟨congrArg (fun v => some (Value.int v)) (show ((-1) : Int32) = f1_keep a b by exact ite_eq_of (fun hc => absurd hc (by omega)) (fun _ => rfl)), rfl, fun x hx => rfl, fun x hx => rfl, fun x hx => rfl⟩
    · refine w_pushI rfl ?_
      refine w_goto rfl ?_
      refine w_iret rfl (Or.inr ⟨rfl, by decide⟩) ?_
      show gW _ _ _ _ _ _ _ _ _ _
      refine w_if_eq rfl (fun h => absurd h (by decide)) (fun _ => ?_)
      refine w_iload rfl rfl ?_
      refine w_pushI rfl ?_
      refine w_icmp_eqZ (b := (-1)) rfl rfl (by decide) (fun h3 => ?_) (fun h3 => ?_)
      · obtain rfl : b = (-1) := i_is (show b.toInt = (-1) by omega) (by decide)
        refine w_iload rfl rfl ?_
        refine w_topv (z := (-1)) (by decide) ?_
        refine w_pushI rfl ?_
        refine w_icmp_ne rfl (fun h => absurd (by decide) h) (fun _ => ?_)
        refine w_aload rfl rfl ?_
        refine w_getR (r := 37) rfl rfl (hR _ fmR_0_11) ?_
        refine w_iload rfl rfl ?_
        rcases (show a.toInt = 0 ∨ a.toInt = 1 ∨ a.toInt = 2 ∨ a.toInt = 3 ∨ a.toInt = 4 ∨ a.toInt = 5 by omega) with hs5 | hs5 | hs5 | hs5 | hs5 | hs5
        · obtain rfl : a = 0 := i_is hs5 (by decide)
          refine w_aaldv (j := 0) (r := 38) rfl rfl (by decide) (by unfold vp_in; decide) (hR _ fmR_37_0) ?_
          refine w_callVi (As := []) (le := [some _]) rfl rfl rfl (Nat.le_of_ble_eq_true rfl) (Nat.le_of_ble_eq_true rfl) rfl ?_
          refine w_aload rfl rfl ?_
          refine w_pushI rfl ?_
          refine w_putI rfl rfl ?_
          refine w_aload rfl rfl ?_
          refine w_pushI rfl ?_
          refine w_putI rfl rfl ?_
          refine w_vret rfl rfl ?_
          show gW _ _ _ _ _ _ _ _ _ _
          refine w_goto rfl ?_
          refine w_pushI rfl ?_
          refine w_iret rfl (Or.inl rfl) ?_
          exact ⟨congrArg (fun v => some (Value.int v)) (show (1 : Int32) = f1_keep (0) ((-1)) by have e0 : (0 : Int32).toInt = 0 := rfl; have e1 : ((-1) : Int32).toInt = (-1) := rfl; exact ite_eq_of (fun _ => rfl) (fun hc => absurd (by omega) hc)), rfl, fun x hx => (gU_o (by omega)).trans (gU_o (by omega)), fun x hx => rfl, fun x hx => rfl⟩
        · obtain rfl : a = 1 := i_is hs5 (by decide)
          refine w_aaldv (j := 1) (r := 40) rfl rfl (by decide) (by unfold vp_in; decide) (hR _ fmR_37_1) ?_
          refine w_callVi (As := []) (le := [some _]) rfl rfl rfl (Nat.le_of_ble_eq_true rfl) (Nat.le_of_ble_eq_true rfl) rfl ?_
          refine w_aload rfl rfl ?_
          refine w_pushI rfl ?_
          refine w_putI rfl rfl ?_
          refine w_aload rfl rfl ?_
          refine w_pushI rfl ?_
          refine w_putI rfl rfl ?_
          refine w_vret rfl rfl ?_
          show gW _ _ _ _ _ _ _ _ _ _
          refine w_goto rfl ?_
          refine w_pushI rfl ?_
          refine w_iret rfl (Or.inl rfl) ?_
          exact ⟨congrArg (fun v => some (Value.int v)) (show (1 : Int32) = f1_keep (1) ((-1)) by have e0 : (1 : Int32).toInt = 1 := rfl; have e1 : ((-1) : Int32).toInt = (-1) := rfl; exact ite_eq_of (fun _ => rfl) (fun hc => absurd (by omega) hc)), rfl, fun x hx => (gU_o (by omega)).trans (gU_o (by omega)), fun x hx => rfl, fun x hx => rfl⟩
        · obtain rfl : a = 2 := i_is hs5 (by decide)
          refine w_aaldv (j := 2) (r := 42) rfl rfl (by decide) (by unfold vp_in; decide) (hR _ fmR_37_2) ?_
          refine w_callVi (As := []) (le := [some _]) rfl rfl rfl (Nat.le_of_ble_eq_true rfl) (Nat.le_of_ble_eq_true rfl) rfl ?_
          refine w_aload rfl rfl ?_
          refine w_pushI rfl ?_
          refine w_putI rfl rfl ?_
          refine w_aload rfl rfl ?_
          refine w_pushI rfl ?_
          refine w_putI rfl rfl ?_
          refine w_vret rfl rfl ?_
          show gW _ _ _ _ _ _ _ _ _ _
          refine w_goto rfl ?_
          refine w_pushI rfl ?_
          refine w_iret rfl (Or.inl rfl) ?_
          exact ⟨congrArg (fun v => some (Value.int v)) (show (1 : Int32) = f1_keep (2) ((-1)) by have e0 : (2 : Int32).toInt = 2 := rfl; have e1 : ((-1) : Int32).toInt = (-1) := rfl; exact ite_eq_of (fun _ => rfl) (fun hc => absurd (by omega) hc)), rfl, fun x hx => (gU_o (by omega)).trans (gU_o (by omega)), fun x hx => rfl, fun x hx => rfl⟩
        · obtain rfl : a = 3 := i_is hs5 (by decide)
          refine w_aaldv (j := 3) (r := 44) rfl rfl (by decide) (by unfold vp_in; decide) (hR _ fmR_37_3) ?_
          refine w_callVi (As := []) (le := [some _]) rfl rfl rfl (Nat.le_of_ble_eq_true rfl) (Nat.le_of_ble_eq_true rfl) rfl ?_
          refine w_aload rfl rfl ?_
          refine w_pushI rfl ?_
          refine w_putI rfl rfl ?_
          refine w_aload rfl rfl ?_
          refine w_pushI rfl ?_
          refine w_putI rfl rfl ?_
          refine w_vret rfl rfl ?_
          show gW _ _ _ _ _ _ _ _ _ _
          refine w_goto rfl ?_
          refine w_pushI rfl ?_
          refine w_iret rfl (Or.inl rfl) ?_
          exact ⟨congrArg (fun v => some (Value.int v)) (show (1 : Int32) = f1_keep (3) ((-1)) by have e0 : (3 : Int32).toInt = 3 := rfl; have e1 : ((-1) : Int32).toInt = (-1) := rfl; exact ite_eq_of (fun _ => rfl) (fun hc => absurd (by omega) hc)), rfl, fun x hx => (gU_o (by omega)).trans (gU_o (by omega)), fun x hx => rfl, fun x hx => rfl⟩
        · obtain rfl : a = 4 := i_is hs5 (by decide)
          refine w_aaldv (j := 4) (r := 46) rfl rfl (by decide) (by unfold vp_in; decide) (hR _ fmR_37_4) ?_
          refine w_callVi (As := []) (le := [some _]) rfl rfl rfl (Nat.le_of_ble_eq_true rfl) (Nat.le_of_ble_eq_true rfl) rfl ?_
          refine w_aload rfl rfl ?_
          refine w_pushI rfl ?_
          refine w_putI rfl rfl ?_
          refine w_aload rfl rfl ?_
          refine w_pushI rfl ?_
          refine w_putI rfl rfl ?_
          refine w_vret rfl rfl ?_
          show gW _ _ _ _ _ _ _ _ _ _
          refine w_goto rfl ?_
          refine w_pushI rfl ?_
          refine w_iret rfl (Or.inl rfl) ?_
          exact ⟨congrArg (fun v => some (Value.int v)) (show (1 : Int32) = f1_keep (4) ((-1)) by have e0 : (4 : Int32).toInt = 4 := rfl; have e1 : ((-1) : Int32).toInt = (-1) := rfl; exact ite_eq_of (fun _ => rfl) (fun hc => absurd (by omega) hc)), rfl, fun x hx => (gU_o (by omega)).trans (gU_o (by omega)), fun x hx => rfl, fun x hx => rfl⟩
        · obtain rfl : a = 5 := i_is hs5 (by decide)
          refine w_aaldv (j := 5) (r := 48) rfl rfl (by decide) (by unfold vp_in; decide) (hR _ fmR_37_5) ?_
          refine w_callVi (As := []) (le := [some _]) rfl rfl rfl (Nat.le_of_ble_eq_true rfl) (Nat.le_of_ble_eq_true rfl) rfl ?_
          refine w_aload rfl rfl ?_
          refine w_pushI rfl ?_
          refine w_putI rfl rfl ?_
          refine w_aload rfl rfl ?_
          refine w_pushI rfl ?_
          refine w_putI rfl rfl ?_
          refine w_vret rfl rfl ?_
          show gW _ _ _ _ _ _ _ _ _ _
          refine w_goto rfl ?_
          refine w_pushI rfl ?_
          refine w_iret rfl (Or.inl rfl) ?_
          exact ⟨congrArg (fun v => some (Value.int v)) (show (1 : Int32) = f1_keep (5) ((-1)) by have e0 : (5 : Int32).toInt = 5 := rfl; have e1 : ((-1) : Int32).toInt = (-1) := rfl; exact ite_eq_of (fun _ => rfl) (fun hc => absurd (by omega) hc)), rfl, fun x hx => (gU_o (by omega)).trans (gU_o (by omega)), fun x hx => rfl, fun x hx => rfl⟩
      · refine w_aload rfl rfl ?_
        refine w_getR (r := 34) rfl rfl (hR _ fmR_0_10) ?_
        refine w_iload rfl rfl ?_
        refine w_callVi (As := [_]) (le := [some _, some _]) rfl rfl rfl (Nat.le_of_ble_eq_true rfl) (Nat.le_of_ble_eq_true rfl) rfl ?_
        refine w_iload rfl rfl ?_
        refine w_if_ltZ rfl rfl (fun h4 => ?_) (fun h4 => ?_)
        · refine w_pushI rfl ?_
          refine w_iret rfl (Or.inr ⟨rfl, by decide⟩) ?_
          show gW _ _ _ _ _ _ _ _ _ _
          refine w_if_ne rfl (fun h => absurd (by decide) h) (fun _ => ?_)
          refine w_pushI rfl ?_
          refine w_iret rfl (Or.inl rfl) ?_
          exact ⟨congrArg (fun v => some (Value.int v)) (show ((-1) : Int32) = f1_keep a b by exact ite_eq_of (fun hc => (by exfalso; omega)) (fun hc => rfl)), rfl, fun x hx => rfl, fun x hx => rfl, fun x hx => rfl⟩
        · refine w_iload rfl rfl ?_
          refine w_aload rfl rfl ?_
          refine w_getIv (x := 0) rfl rfl (hI _ fmI_34_1) ?_
          refine w_icmp_geZ (b := 0) rfl rfl (by decide) (fun h5 => ?_) (fun h5 => by exfalso; omega)
          refine w_pushI rfl ?_
          refine w_iret rfl (Or.inr ⟨rfl, by decide⟩) ?_
          show gW _ _ _ _ _ _ _ _ _ _
          refine w_if_ne rfl (fun h => absurd (by decide) h) (fun _ => ?_)
          refine w_pushI rfl ?_
          refine w_iret rfl (Or.inl rfl) ?_
          exact ⟨congrArg (fun v => some (Value.int v)) (show ((-1) : Int32) = f1_keep a b by exact ite_eq_of (fun hc => absurd hc (by omega)) (fun _ => rfl)), rfl, fun x hx => rfl, fun x hx => rfl, fun x hx => rfl⟩
set_option maxHeartbeats 40000000 in
set_option maxRecDepth 100000 in
theorem a2_keep {X : Nat × (Nat → Int32)} {d : Nat} {I : Nat → Nat → Int32} {L : Nat → Nat → Int64} {R : Nat → Nat → Option Nat} (hI : ∀ q ∈ gFlI, 50 ≤ q.1 → I q.1 q.2.1 = q.2.2) (hL : ∀ q ∈ gFlL, 50 ≤ q.1 → L q.1 q.2.1 = q.2.2) (hR : ∀ q ∈ gFlR, 50 ≤ q.1 → R q.1 q.2.1 = some q.2.2) (a : Int32) (b : Int32) : gW X (d + 12) 249 0 0 0 (gEn 249 [.ref 50, .int a, .int b]) [] (gK 87, I, L, R) (fun r _ => r = some (.int (f1_keep a b))) := by
  show gW _ _ _ _ _ _ [some (.ref 50), some (.int a), some (.int b)] _ _ _
  refine w_iload rfl rfl ?_
  refine w_callSi (As := [_]) (le := [some _]) rfl rfl (Nat.le_of_ble_eq_true rfl) (Nat.le_of_ble_eq_true rfl) rfl ?_
  refine w_iload rfl rfl ?_
  refine w_pushI rfl ?_
  refine w_pushI rfl ?_
  refine w_callSi (As := [_, _, _]) (le := [some _, some _, some _]) rfl rfl (Nat.le_of_ble_eq_true rfl) (Nat.le_of_ble_eq_true rfl) rfl ?_
  refine w_iload rfl rfl ?_
  refine w_iload rfl rfl ?_
  refine w_icmp_ltZ (b := 0) rfl rfl (by decide) (fun h1 => ?_) (fun h1 => ?_)
  · refine w_pushI rfl ?_
    refine w_iret rfl (Or.inr ⟨rfl, by decide⟩) ?_
    show gW _ _ _ _ _ _ _ _ _ _
    refine w_iret rfl (Or.inr ⟨rfl, by decide⟩) ?_
    show gW _ _ _ _ _ _ _ _ _ _
    refine w_if_eq rfl (fun _ => ?_) (fun h => absurd (by decide) h)
    refine w_pushI rfl ?_
    refine w_iret rfl (Or.inl rfl) ?_
    exact congrArg (fun v => some (Value.int v)) (show ((-1) : Int32) = f1_keep a b by exact ite_eq_of (fun hc => absurd hc (by omega)) (fun _ => rfl))
  · refine w_iload rfl rfl ?_
    refine w_iload rfl rfl ?_
    refine w_icmp_gtZ (b := 5) rfl rfl (by decide) (fun h2 => ?_) (fun h2 => ?_)
    · refine w_pushI rfl ?_
      refine w_iret rfl (Or.inr ⟨rfl, by decide⟩) ?_
      show gW _ _ _ _ _ _ _ _ _ _
      refine w_iret rfl (Or.inr ⟨rfl, by decide⟩) ?_
      show gW _ _ _ _ _ _ _ _ _ _
      refine w_if_eq rfl (fun _ => ?_) (fun h => absurd (by decide) h)
      refine w_pushI rfl ?_
      refine w_iret rfl (Or.inl rfl) ?_
      exact congrArg (fun v => some (Value.int v)) (show ((-1) : Int32) = f1_keep a b by exact ite_eq_of (fun hc => absurd hc (by omega)) (fun _ => rfl))
    · refine w_pushI rfl ?_
      refine w_goto rfl ?_
      refine w_iret rfl (Or.inr ⟨rfl, by decide⟩) ?_
      show gW _ _ _ _ _ _ _ _ _ _
      refine w_iret rfl (Or.inr ⟨rfl, by decide⟩) ?_
      show gW _ _ _ _ _ _ _ _ _ _
      refine w_if_eq rfl (fun h => absurd h (by decide)) (fun _ => ?_)
      refine w_iload rfl rfl ?_
      refine w_pushI rfl ?_
      refine w_icmp_eqZ (b := (-1)) rfl rfl (by decide) (fun h3 => ?_) (fun h3 => ?_)
      · obtain rfl : b = (-1) := i_is (show b.toInt = (-1) by omega) (by decide)
        refine w_aload rfl rfl ?_
        refine w_getR (r := 83) rfl rfl (hR _ fmR_50_58 (by decide)) ?_
        refine w_iload rfl rfl ?_
        refine w_iload rfl rfl ?_
        refine w_topv (z := (-1)) (by decide) ?_
        rcases (show a.toInt = 0 ∨ a.toInt = 1 ∨ a.toInt = 2 ∨ a.toInt = 3 ∨ a.toInt = 4 ∨ a.toInt = 5 by omega) with hs5 | hs5 | hs5 | hs5 | hs5 | hs5
        · obtain rfl : a = 0 := i_is hs5 (by decide)
          refine w_iastv (j := 0) rfl rfl (by decide) (by unfold vp_in; decide) rfl ?_
          refine w_pushI rfl ?_
          refine w_iret rfl (Or.inl rfl) ?_
          exact congrArg (fun v => some (Value.int v)) (show (1 : Int32) = f1_keep (0) ((-1)) by have e0 : (0 : Int32).toInt = 0 := rfl; have e1 : ((-1) : Int32).toInt = (-1) := rfl; exact ite_eq_of (fun _ => rfl) (fun hc => absurd (by omega) hc))
        · obtain rfl : a = 1 := i_is hs5 (by decide)
          refine w_iastv (j := 1) rfl rfl (by decide) (by unfold vp_in; decide) rfl ?_
          refine w_pushI rfl ?_
          refine w_iret rfl (Or.inl rfl) ?_
          exact congrArg (fun v => some (Value.int v)) (show (1 : Int32) = f1_keep (1) ((-1)) by have e0 : (1 : Int32).toInt = 1 := rfl; have e1 : ((-1) : Int32).toInt = (-1) := rfl; exact ite_eq_of (fun _ => rfl) (fun hc => absurd (by omega) hc))
        · obtain rfl : a = 2 := i_is hs5 (by decide)
          refine w_iastv (j := 2) rfl rfl (by decide) (by unfold vp_in; decide) rfl ?_
          refine w_pushI rfl ?_
          refine w_iret rfl (Or.inl rfl) ?_
          exact congrArg (fun v => some (Value.int v)) (show (1 : Int32) = f1_keep (2) ((-1)) by have e0 : (2 : Int32).toInt = 2 := rfl; have e1 : ((-1) : Int32).toInt = (-1) := rfl; exact ite_eq_of (fun _ => rfl) (fun hc => absurd (by omega) hc))
        · obtain rfl : a = 3 := i_is hs5 (by decide)
          refine w_iastv (j := 3) rfl rfl (by decide) (by unfold vp_in; decide) rfl ?_
          refine w_pushI rfl ?_
          refine w_iret rfl (Or.inl rfl) ?_
          exact congrArg (fun v => some (Value.int v)) (show (1 : Int32) = f1_keep (3) ((-1)) by have e0 : (3 : Int32).toInt = 3 := rfl; have e1 : ((-1) : Int32).toInt = (-1) := rfl; exact ite_eq_of (fun _ => rfl) (fun hc => absurd (by omega) hc))
        · obtain rfl : a = 4 := i_is hs5 (by decide)
          refine w_iastv (j := 4) rfl rfl (by decide) (by unfold vp_in; decide) rfl ?_
          refine w_pushI rfl ?_
          refine w_iret rfl (Or.inl rfl) ?_
          exact congrArg (fun v => some (Value.int v)) (show (1 : Int32) = f1_keep (4) ((-1)) by have e0 : (4 : Int32).toInt = 4 := rfl; have e1 : ((-1) : Int32).toInt = (-1) := rfl; exact ite_eq_of (fun _ => rfl) (fun hc => absurd (by omega) hc))
        · obtain rfl : a = 5 := i_is hs5 (by decide)
          refine w_iastv (j := 5) rfl rfl (by decide) (by unfold vp_in; decide) rfl ?_
          refine w_pushI rfl ?_
          refine w_iret rfl (Or.inl rfl) ?_
          exact congrArg (fun v => some (Value.int v)) (show (1 : Int32) = f1_keep (5) ((-1)) by have e0 : (5 : Int32).toInt = 5 := rfl; have e1 : ((-1) : Int32).toInt = (-1) := rfl; exact ite_eq_of (fun _ => rfl) (fun hc => absurd (by omega) hc))
      · refine w_aload rfl rfl ?_
        refine w_iload rfl rfl ?_
        refine w_callVi (As := [_]) (le := [some _, some _]) rfl rfl rfl (Nat.le_of_ble_eq_true rfl) (Nat.le_of_ble_eq_true rfl) rfl ?_
        refine w_iload rfl rfl ?_
        refine w_pushI rfl ?_
        refine w_aload rfl rfl ?_
        refine w_getIv (x := 0) rfl rfl (hI _ fmI_50_54 (by decide)) ?_
        refine w_pushI rfl ?_
        refine w_isubv (z := (-1)) rfl (by decide) ?_
        refine w_callSi (As := [_, _, _]) (le := [some _, some _, some _]) rfl rfl (Nat.le_of_ble_eq_true rfl) (Nat.le_of_ble_eq_true rfl) rfl ?_
        refine w_iload rfl rfl ?_
        refine w_iload rfl rfl ?_
        refine w_icmp_ltZ (b := 0) rfl rfl (by decide) (fun h4 => ?_) (fun h4 => ?_)
        · refine w_pushI rfl ?_
          refine w_iret rfl (Or.inr ⟨rfl, by decide⟩) ?_
          show gW _ _ _ _ _ _ _ _ _ _
          refine w_iret rfl (Or.inr ⟨rfl, by decide⟩) ?_
          show gW _ _ _ _ _ _ _ _ _ _
          refine w_if_ne rfl (fun h => absurd (by decide) h) (fun _ => ?_)
          refine w_pushI rfl ?_
          refine w_iret rfl (Or.inl rfl) ?_
          exact congrArg (fun v => some (Value.int v)) (show ((-1) : Int32) = f1_keep a b by exact ite_eq_of (fun hc => (by exfalso; omega)) (fun hc => rfl))
        · refine w_iload rfl rfl ?_
          refine w_iload rfl rfl ?_
          refine w_icmp_gtZ (b := (-1)) rfl rfl (by decide) (fun h5 => ?_) (fun h5 => by exfalso; omega)
          refine w_pushI rfl ?_
          refine w_iret rfl (Or.inr ⟨rfl, by decide⟩) ?_
          show gW _ _ _ _ _ _ _ _ _ _
          refine w_iret rfl (Or.inr ⟨rfl, by decide⟩) ?_
          show gW _ _ _ _ _ _ _ _ _ _
          refine w_if_ne rfl (fun h => absurd (by decide) h) (fun _ => ?_)
          refine w_pushI rfl ?_
          refine w_iret rfl (Or.inl rfl) ?_
          exact congrArg (fun v => some (Value.int v)) (show ((-1) : Int32) = f1_keep a b by exact ite_eq_of (fun hc => absurd hc (by omega)) (fun _ => rfl))
