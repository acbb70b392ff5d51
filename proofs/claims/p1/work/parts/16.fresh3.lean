set_option maxHeartbeats 40000000 in
set_option maxRecDepth 100000 in
theorem a1_row {X : Nat × (Nat → Int32)} {d : Nat} {I : Nat → Nat → Int32} {L : Nat → Nat → Int64} {R : Nat → Nat → Option Nat} (hI : ∀ q ∈ gFlI, I q.1 q.2.1 = q.2.2) (hL : ∀ q ∈ gFlL, L q.1 q.2.1 = q.2.2) (hR : ∀ q ∈ gFlR, R q.1 q.2.1 = some q.2.2) (a : Int32) (b : Int32) (c : Int32) : gW X (d + 12) 137 0 0 0 (gEn 137 [.ref 0, .int a, .int b, .int c]) [] (gK 87, I, L, R) (fun r σ => r = some (.int (f1_row a b c)) ∧ gFr σ I L R) := by
  show gW _ _ _ _ _ _ [some (.ref 0), some (.int a), some (.int b), some (.int c)] _ _ _
  refine w_iload rfl rfl ?_
  refine w_callSi (As := [_]) (le := [some _]) rfl rfl (Nat.le_of_ble_eq_true rfl) (Nat.le_of_ble_eq_true rfl) rfl ?_
  refine w_iload rfl rfl ?_
  refine w_if_ltZ rfl rfl (fun h1 => ?_) (fun h1 => ?_)
  · refine w_pushI rfl ?_
    refine w_iret rfl (Or.inr ⟨rfl, by decide⟩) ?_
    show gW _ _ _ _ _ _ _ _ _ _
    refine w_if_eq rfl (fun _ => ?_) (fun h => absurd (by decide) h)
    refine w_pushI rfl ?_
    refine w_iret rfl (Or.inl rfl) ?_
    exact ⟨congrArg (fun v => some (Value.int v)) (show ((-1) : Int32) = f1_row a b c by exact ite_eq_of (fun hc => absurd hc (by omega)) (fun _ => rfl)), rfl, fun x hx => rfl, fun x hx => rfl, fun x hx => rfl⟩
  · refine w_iload rfl rfl ?_
    refine w_pushI rfl ?_
    refine w_icmp_geZ (b := 6) rfl rfl (by decide) (fun h2 => ?_) (fun h2 => ?_)
    · refine w_pushI rfl ?_
      refine w_iret rfl (Or.inr ⟨rfl, by decide⟩) ?_
      show gW _ _ _ _ _ _ _ _ _ _
      refine w_if_eq rfl (fun _ => ?_) (fun h => absurd (by decide) h)
      refine w_pushI rfl ?_
      refine w_iret rfl (Or.inl rfl) ?_
      exact ⟨congrArg (fun v => some (Value.int v)) (show ((-1) : Int32) = f1_row a b c by exact ite_eq_of (fun hc => absurd hc (by omega)) (fun _ => rfl)), rfl, fun x hx => rfl, fun x hx => rfl, fun x hx => rfl⟩
    · refine w_pushI rfl ?_
      refine w_goto rfl ?_
      refine w_iret rfl (Or.inr ⟨rfl, by decide⟩) ?_
      show gW _ _ _ _ _ _ _ _ _ _
      refine w_if_eq rfl (fun h => absurd h (by decide)) (fun _ => ?_)
      refine w_iload rfl rfl ?_
      refine w_callSi (As := [_]) (le := [some _]) rfl rfl (Nat.le_of_ble_eq_true rfl) (Nat.le_of_ble_eq_true rfl) rfl ?_
      refine w_iload rfl rfl ?_
      refine w_if_ltZ rfl rfl (fun h3 => ?_) (fun h3 => ?_)
      · refine w_pushI rfl ?_
        refine w_iret rfl (Or.inr ⟨rfl, by decide⟩) ?_
        show gW _ _ _ _ _ _ _ _ _ _
        refine w_if_eq rfl (fun _ => ?_) (fun h => absurd (by decide) h)
        refine w_pushI rfl ?_
        refine w_iret rfl (Or.inl rfl) ?_
        exact ⟨congrArg (fun v => some (Value.int v)) (show ((-1) : Int32) = f1_row a b c by exact ite_eq_of (fun hc => absurd hc (by omega)) (fun _ => rfl)), rfl, fun x hx => rfl, fun x hx => rfl, fun x hx => rfl⟩
      · refine w_iload rfl rfl ?_
        refine w_pushI rfl ?_
        refine w_icmp_gtZ (b := 4) rfl rfl (by decide) (fun h4 => ?_) (fun h4 => ?_)
        · refine w_pushI rfl ?_
          refine w_iret rfl (Or.inr ⟨rfl, by decide⟩) ?_
          show gW _ _ _ _ _ _ _ _ _ _
          refine w_if_eq rfl (fun _ => ?_) (fun h => absurd (by decide) h)
          refine w_pushI rfl ?_
          refine w_iret rfl (Or.inl rfl) ?_
          exact ⟨congrArg (fun v => some (Value.int v)) (show ((-1) : Int32) = f1_row a b c by exact ite_eq_of (fun hc => absurd hc (by omega)) (fun _ => rfl)), rfl, fun x hx => rfl, fun x hx => rfl, fun x hx => rfl⟩
        · refine w_pushI rfl ?_
          refine w_goto rfl ?_
          refine w_iret rfl (Or.inr ⟨rfl, by decide⟩) ?_
          show gW _ _ _ _ _ _ _ _ _ _
          refine w_if_eq rfl (fun h => absurd h (by decide)) (fun _ => ?_)
          refine w_iload rfl rfl ?_
          refine w_pushI rfl ?_
          refine w_icmp_leZ (b := 60) rfl rfl (by decide) (fun h5 => ?_) (fun h5 => ?_)
          · refine w_iload rfl rfl ?_
            refine w_if_geZ rfl rfl (fun h6 => ?_) (fun h6 => ?_)
            · refine w_aload rfl rfl ?_
              refine w_getR (r := 37) rfl rfl (hR _ fmR_0_11) ?_
              refine w_iload rfl rfl ?_
              rcases (show a.toInt = 0 ∨ a.toInt = 1 ∨ a.toInt = 2 ∨ a.toInt = 3 ∨ a.toInt = 4 ∨ a.toInt = 5 by omega) with hs7 | hs7 | hs7 | hs7 | hs7 | hs7
              · obtain rfl : a = 0 := i_is hs7 (by decide)
                refine w_aaldv (j := 0) (r := 38) rfl rfl (by decide) (by unfold vp_in; decide) (hR _ fmR_37_0) ?_
                refine w_iload rfl rfl ?_
                refine w_iload rfl rfl ?_
                refine w_callVi (As := [_, _]) (le := [some _, some _, some _, none]) rfl rfl rfl (Nat.le_of_ble_eq_true rfl) (Nat.le_of_ble_eq_true rfl) rfl ?_
                refine w_aload rfl rfl ?_
                refine w_pushI rfl ?_
                refine w_putI rfl rfl ?_
                refine w_aload rfl rfl ?_
                refine w_iload rfl rfl ?_
                refine w_putI rfl rfl ?_
                refine w_aload rfl rfl ?_
                refine w_iload rfl rfl ?_
                refine w_putI rfl rfl ?_
                refine w_pushI rfl ?_
                refine w_istore rfl rfl ?_
                refine w_iload rfl rfl ?_
                refine w_pushI rfl ?_
                refine w_icmp_ge rfl (fun h => absurd h (by decide)) (fun _ => ?_)
                refine w_aload rfl rfl ?_
                refine w_getR (r := 39) rfl rfl (hR _ fmR_38_4) ?_
                refine w_iload rfl rfl ?_
                refine w_pushL rfl ?_
                refine w_lastv (j := 0) rfl rfl (by decide) (by unfold vp_in; decide) rfl ?_
                refine w_iincv (z := 1) rfl rfl (by decide) rfl ?_
                refine w_goto rfl ?_
                refine w_iload rfl rfl ?_
                refine w_pushI rfl ?_
                refine w_icmp_ge rfl (fun h => absurd h (by decide)) (fun _ => ?_)
                refine w_aload rfl rfl ?_
                refine w_getR (r := 39) rfl rfl (hR _ fmR_38_4) ?_
                refine w_iload rfl rfl ?_
                refine w_pushL rfl ?_
                refine w_lastv (j := 1) rfl rfl (by decide) (by unfold vp_in; decide) rfl ?_
                refine w_iincv (z := 2) rfl rfl (by decide) rfl ?_
                refine w_goto rfl ?_
                refine w_iload rfl rfl ?_
                refine w_pushI rfl ?_
                refine w_icmp_ge rfl (fun h => absurd h (by decide)) (fun _ => ?_)
                refine w_aload rfl rfl ?_
                refine w_getR (r := 39) rfl rfl (hR _ fmR_38_4) ?_
                refine w_iload rfl rfl ?_
                refine w_pushL rfl ?_
                refine w_lastv (j := 2) rfl rfl (by decide) (by unfold vp_in; decide) rfl ?_
                refine w_iincv (z := 3) rfl rfl (by decide) rfl ?_
                refine w_goto rfl ?_
                refine w_iload rfl rfl ?_
                refine w_pushI rfl ?_
                refine w_icmp_ge rfl (fun h => absurd h (by decide)) (fun _ => ?_)
                refine w_aload rfl rfl ?_
                refine w_getR (r := 39) rfl rfl (hR _ fmR_38_4) ?_
                refine w_iload rfl rfl ?_
                refine w_pushL rfl ?_
                refine w_lastv (j := 3) rfl rfl (by decide) (by unfold vp_in; decide) rfl ?_
                refine w_iincv (z := 4) rfl rfl (by decide) rfl ?_
                refine w_goto rfl ?_
                refine w_iload rfl rfl ?_
                refine w_pushI rfl ?_
                refine w_icmp_ge rfl (fun h => absurd h (by decide)) (fun _ => ?_)
                refine w_aload rfl rfl ?_
                refine w_getR (r := 39) rfl rfl (hR _ fmR_38_4) ?_
                refine w_iload rfl rfl ?_
                refine w_pushL rfl ?_
                refine w_lastv (j := 4) rfl rfl (by decide) (by unfold vp_in; decide) rfl ?_
                refine w_iincv (z := 5) rfl rfl (by decide) rfl ?_
                refine w_goto rfl ?_
                refine w_iload rfl rfl ?_
                refine w_pushI rfl ?_
                refine w_icmp_ge rfl (fun h => absurd h (by decide)) (fun _ => ?_)
                refine w_aload rfl rfl ?_
                refine w_getR (r := 39) rfl rfl (hR _ fmR_38_4) ?_
                refine w_iload rfl rfl ?_
                refine w_pushL rfl ?_
                refine w_lastv (j := 5) rfl rfl (by decide) (by unfold vp_in; decide) rfl ?_
                refine w_iincv (z := 6) rfl rfl (by decide) rfl ?_
                refine w_goto rfl ?_
                refine w_iload rfl rfl ?_
                refine w_pushI rfl ?_
                refine w_icmp_ge rfl (fun h => absurd h (by decide)) (fun _ => ?_)
                refine w_aload rfl rfl ?_
                refine w_getR (r := 39) rfl rfl (hR _ fmR_38_4) ?_
                refine w_iload rfl rfl ?_
                refine w_pushL rfl ?_
                refine w_lastv (j := 6) rfl rfl (by decide) (by unfold vp_in; decide) rfl ?_
                refine w_iincv (z := 7) rfl rfl (by decide) rfl ?_
                refine w_goto rfl ?_
                refine w_iload rfl rfl ?_
                refine w_pushI rfl ?_
                refine w_icmp_ge rfl (fun h => absurd h (by decide)) (fun _ => ?_)
                refine w_aload rfl rfl ?_
                refine w_getR (r := 39) rfl rfl (hR _ fmR_38_4) ?_
                refine w_iload rfl rfl ?_
                refine w_pushL rfl ?_
                refine w_lastv (j := 7) rfl rfl (by decide) (by unfold vp_in; decide) rfl ?_
                refine w_iincv (z := 8) rfl rfl (by decide) rfl ?_
                refine w_goto rfl ?_
                refine w_iload rfl rfl ?_
                refine w_pushI rfl ?_
                refine w_icmp_ge rfl (fun h => absurd h (by decide)) (fun _ => ?_)
                refine w_aload rfl rfl ?_
                refine w_getR (r := 39) rfl rfl (hR _ fmR_38_4) ?_
                refine w_iload rfl rfl ?_
                refine w_pushL rfl ?_
                refine w_lastv (j := 8) rfl rfl (by decide) (by unfold vp_in; decide) rfl ?_
                refine w_iincv (z := 9) rfl rfl (by decide) rfl ?_
                refine w_goto rfl ?_
                refine w_iload rfl rfl ?_
                refine w_pushI rfl ?_
                refine w_icmp_ge rfl (fun h => absurd h (by decide)) (fun _ => ?_)
                refine w_aload rfl rfl ?_
                refine w_getR (r := 39) rfl rfl (hR _ fmR_38_4) ?_
                refine w_iload rfl rfl ?_
                refine w_pushL rfl ?_
                refine w_lastv (j := 9) rfl rfl (by decide) (by unfold vp_in; decide) rfl ?_
                refine w_iincv (z := 10) rfl rfl (by decide) rfl ?_
                refine w_goto rfl ?_
                refine w_iload rfl rfl ?_
                refine w_pushI rfl ?_
                refine w_icmp_ge rfl (fun h => absurd h (by decide)) (fun _ => ?_)
                refine w_aload rfl rfl ?_
                refine w_getR (r := 39) rfl rfl (hR _ fmR_38_4) ?_
                refine w_iload rfl rfl ?_
                refine w_pushL rfl ?_
                refine w_lastv (j := 10) rfl rfl (by decide) (by unfold vp_in; decide) rfl ?_
                refine w_iincv (z := 11) rfl rfl (by decide) rfl ?_
                refine w_goto rfl ?_
                refine w_iload rfl rfl ?_
                refine w_pushI rfl ?_
                refine w_icmp_ge rfl (fun h => absurd h (by decide)) (fun _ => ?_)
                refine w_aload rfl rfl ?_
                refine w_getR (r := 39) rfl rfl (hR _ fmR_38_4) ?_
                refine w_iload rfl rfl ?_
                refine w_pushL rfl ?_
                refine w_lastv (j := 11) rfl rfl (by decide) (by unfold vp_in; decide) rfl ?_
                refine w_iincv (z := 12) rfl rfl (by decide) rfl ?_
                refine w_goto rfl ?_
                refine w_iload rfl rfl ?_
                refine w_pushI rfl ?_
                refine w_icmp_ge rfl (fun h => absurd h (by decide)) (fun _ => ?_)
                refine w_aload rfl rfl ?_
                refine w_getR (r := 39) rfl rfl (hR _ fmR_38_4) ?_
                refine w_iload rfl rfl ?_
                refine w_pushL rfl ?_
                refine w_lastv (j := 12) rfl rfl (by decide) (by unfold vp_in; decide) rfl ?_
                refine w_iincv (z := 13) rfl rfl (by decide) rfl ?_
                refine w_goto rfl ?_
                refine w_iload rfl rfl ?_
                refine w_pushI rfl ?_
                refine w_icmp_ge rfl (fun h => absurd h (by decide)) (fun _ => ?_)
                refine w_aload rfl rfl ?_
                refine w_getR (r := 39) rfl rfl (hR _ fmR_38_4) ?_
                refine w_iload rfl rfl ?_
                refine w_pushL rfl ?_
                refine w_lastv (j := 13) rfl rfl (by decide) (by unfold vp_in; decide) rfl ?_
                refine w_iincv (z := 14) rfl rfl (by decide) rfl ?_
                refine w_goto rfl ?_
                refine w_iload rfl rfl ?_
                refine w_pushI rfl ?_
                refine w_icmp_ge rfl (fun h => absurd h (by decide)) (fun _ => ?_)
                refine w_aload rfl rfl ?_
                refine w_getR (r := 39) rfl rfl (hR _ fmR_38_4) ?_
                refine w_iload rfl rfl ?_
                refine w_pushL rfl ?_
                refine w_lastv (j := 14) rfl rfl (by decide) (by unfold vp_in; decide) rfl ?_
                refine w_iincv (z := 15) rfl rfl (by decide) rfl ?_
                refine w_goto rfl ?_
                refine w_iload rfl rfl ?_
                refine w_pushI rfl ?_
                refine w_icmp_ge rfl (fun h => absurd h (by decide)) (fun _ => ?_)
                refine w_aload rfl rfl ?_
                refine w_getR (r := 39) rfl rfl (hR _ fmR_38_4) ?_
                refine w_iload rfl rfl ?_
                refine w_pushL rfl ?_
                refine w_lastv (j := 15) rfl rfl (by decide) (by unfold vp_in; decide) rfl ?_
                refine w_iincv (z := 16) rfl rfl (by decide) rfl ?_
                refine w_goto rfl ?_
                refine w_iload rfl rfl ?_
                refine w_pushI rfl ?_
                refine w_icmp_ge rfl (fun h => absurd h (by decide)) (fun _ => ?_)
                refine w_aload rfl rfl ?_
                refine w_getR (r := 39) rfl rfl (hR _ fmR_38_4) ?_
                refine w_iload rfl rfl ?_
                refine w_pushL rfl ?_
                refine w_lastv (j := 16) rfl rfl (by decide) (by unfold vp_in; decide) rfl ?_
                refine w_iincv (z := 17) rfl rfl (by decide) rfl ?_
                refine w_goto rfl ?_
                refine w_iload rfl rfl ?_
                refine w_pushI rfl ?_
                refine w_icmp_ge rfl (fun h => absurd h (by decide)) (fun _ => ?_)
                refine w_aload rfl rfl ?_
                refine w_getR (r := 39) rfl rfl (hR _ fmR_38_4) ?_
                refine w_iload rfl rfl ?_
                refine w_pushL rfl ?_
                refine w_lastv (j := 17) rfl rfl (by decide) (by unfold vp_in; decide) rfl ?_
                refine w_iincv (z := 18) rfl rfl (by decide) rfl ?_
                refine w_goto rfl ?_
                refine w_iload rfl rfl ?_
                refine w_pushI rfl ?_
                refine w_icmp_ge rfl (fun h => absurd h (by decide)) (fun _ => ?_)
                refine w_aload rfl rfl ?_
                refine w_getR (r := 39) rfl rfl (hR _ fmR_38_4) ?_
                refine w_iload rfl rfl ?_
                refine w_pushL rfl ?_
                refine w_lastv (j := 18) rfl rfl (by decide) (by unfold vp_in; decide) rfl ?_
                refine w_iincv (z := 19) rfl rfl (by decide) rfl ?_
                refine w_goto rfl ?_
                refine w_iload rfl rfl ?_
                refine w_pushI rfl ?_
                refine w_icmp_ge rfl (fun h => absurd h (by decide)) (fun _ => ?_)
                refine w_aload rfl rfl ?_
                refine w_getR (r := 39) rfl rfl (hR _ fmR_38_4) ?_
                refine w_iload rfl rfl ?_
                refine w_pushL rfl ?_
                refine w_lastv (j := 19) rfl rfl (by decide) (by unfold vp_in; decide) rfl ?_
                refine w_iincv (z := 20) rfl rfl (by decide) rfl ?_
                refine w_goto rfl ?_
                refine w_iload rfl rfl ?_
                refine w_pushI rfl ?_
                refine w_icmp_ge rfl (fun h => absurd h (by decide)) (fun _ => ?_)
                refine w_aload rfl rfl ?_
                refine w_getR (r := 39) rfl rfl (hR _ fmR_38_4) ?_
                refine w_iload rfl rfl ?_
                refine w_pushL rfl ?_
                refine w_lastv (j := 20) rfl rfl (by decide) (by unfold vp_in; decide) rfl ?_
                refine w_iincv (z := 21) rfl rfl (by decide) rfl ?_
                refine w_goto rfl ?_
                refine w_iload rfl rfl ?_
                refine w_pushI rfl ?_
                refine w_icmp_ge rfl (fun h => absurd h (by decide)) (fun _ => ?_)
                refine w_aload rfl rfl ?_
                refine w_getR (r := 39) rfl rfl (hR _ fmR_38_4) ?_
                refine w_iload rfl rfl ?_
                refine w_pushL rfl ?_
                refine w_lastv (j := 21) rfl rfl (by decide) (by unfold vp_in; decide) rfl ?_
                refine w_iincv (z := 22) rfl rfl (by decide) rfl ?_
                refine w_goto rfl ?_
                refine w_iload rfl rfl ?_
                refine w_pushI rfl ?_
                refine w_icmp_ge rfl (fun h => absurd h (by decide)) (fun _ => ?_)
                refine w_aload rfl rfl ?_
                refine w_getR (r := 39) rfl rfl (hR _ fmR_38_4) ?_
                refine w_iload rfl rfl ?_
                refine w_pushL rfl ?_
                refine w_lastv (j := 22) rfl rfl (by decide) (by unfold vp_in; decide) rfl ?_
                refine w_iincv (z := 23) rfl rfl (by decide) rfl ?_
                refine w_goto rfl ?_
                refine w_iload rfl rfl ?_
                refine w_pushI rfl ?_
                refine w_icmp_ge rfl (fun h => absurd h (by decide)) (fun _ => ?_)
                refine w_aload rfl rfl ?_
                refine w_getR (r := 39) rfl rfl (hR _ fmR_38_4) ?_
                refine w_iload rfl rfl ?_
                refine w_pushL rfl ?_
                refine w_lastv (j := 23) rfl rfl (by decide) (by unfold vp_in; decide) rfl ?_
                refine w_iincv (z := 24) rfl rfl (by decide) rfl ?_
                refine w_goto rfl ?_
                refine w_iload rfl rfl ?_
                refine w_pushI rfl ?_
                refine w_icmp_ge rfl (fun h => absurd h (by decide)) (fun _ => ?_)
                refine w_aload rfl rfl ?_
                refine w_getR (r := 39) rfl rfl (hR _ fmR_38_4) ?_
                refine w_iload rfl rfl ?_
                refine w_pushL rfl ?_
                refine w_lastv (j := 24) rfl rfl (by decide) (by unfold vp_in; decide) rfl ?_
                refine w_iincv (z := 25) rfl rfl (by decide) rfl ?_
                refine w_goto rfl ?_
                refine w_iload rfl rfl ?_
                refine w_pushI rfl ?_
                refine w_icmp_ge rfl (fun h => absurd h (by decide)) (fun _ => ?_)
                refine w_aload rfl rfl ?_
                refine w_getR (r := 39) rfl rfl (hR _ fmR_38_4) ?_
                refine w_iload rfl rfl ?_
                refine w_pushL rfl ?_
                refine w_lastv (j := 25) rfl rfl (by decide) (by unfold vp_in; decide) rfl ?_
                refine w_iincv (z := 26) rfl rfl (by decide) rfl ?_
                refine w_goto rfl ?_
                refine w_iload rfl rfl ?_
                refine w_pushI rfl ?_
                refine w_icmp_ge rfl (fun h => absurd h (by decide)) (fun _ => ?_)
                refine w_aload rfl rfl ?_
                refine w_getR (r := 39) rfl rfl (hR _ fmR_38_4) ?_
                refine w_iload rfl rfl ?_
                refine w_pushL rfl ?_
                refine w_lastv (j := 26) rfl rfl (by decide) (by unfold vp_in; decide) rfl ?_
                refine w_iincv (z := 27) rfl rfl (by decide) rfl ?_
                refine w_goto rfl ?_
                refine w_iload rfl rfl ?_
                refine w_pushI rfl ?_
                refine w_icmp_ge rfl (fun h => absurd h (by decide)) (fun _ => ?_)
                refine w_aload rfl rfl ?_
                refine w_getR (r := 39) rfl rfl (hR _ fmR_38_4) ?_
                refine w_iload rfl rfl ?_
                refine w_pushL rfl ?_
                refine w_lastv (j := 27) rfl rfl (by decide) (by unfold vp_in; decide) rfl ?_
                refine w_iincv (z := 28) rfl rfl (by decide) rfl ?_
                refine w_goto rfl ?_
                refine w_iload rfl rfl ?_
                refine w_pushI rfl ?_
                refine w_icmp_ge rfl (fun h => absurd h (by decide)) (fun _ => ?_)
                refine w_aload rfl rfl ?_
                refine w_getR (r := 39) rfl rfl (hR _ fmR_38_4) ?_
                refine w_iload rfl rfl ?_
                refine w_pushL rfl ?_
                refine w_lastv (j := 28) rfl rfl (by decide) (by unfold vp_in; decide) rfl ?_
                refine w_iincv (z := 29) rfl rfl (by decide) rfl ?_
                refine w_goto rfl ?_
                refine w_iload rfl rfl ?_
                refine w_pushI rfl ?_
                refine w_icmp_ge rfl (fun h => absurd h (by decide)) (fun _ => ?_)
                refine w_aload rfl rfl ?_
                refine w_getR (r := 39) rfl rfl (hR _ fmR_38_4) ?_
                refine w_iload rfl rfl ?_
                refine w_pushL rfl ?_
                refine w_lastv (j := 29) rfl rfl (by decide) (by unfold vp_in; decide) rfl ?_
                refine w_iincv (z := 30) rfl rfl (by decide) rfl ?_
                refine w_goto rfl ?_
                refine w_iload rfl rfl ?_
                refine w_pushI rfl ?_
                refine w_icmp_ge rfl (fun h => absurd h (by decide)) (fun _ => ?_)
                refine w_aload rfl rfl ?_
                refine w_getR (r := 39) rfl rfl (hR _ fmR_38_4) ?_
                refine w_iload rfl rfl ?_
                refine w_pushL rfl ?_
                refine w_lastv (j := 30) rfl rfl (by decide) (by unfold vp_in; decide) rfl ?_
                refine w_iincv (z := 31) rfl rfl (by decide) rfl ?_
                refine w_goto rfl ?_
                refine w_iload rfl rfl ?_
                refine w_pushI rfl ?_
                refine w_icmp_ge rfl (fun h => absurd h (by decide)) (fun _ => ?_)
                refine w_aload rfl rfl ?_
                refine w_getR (r := 39) rfl rfl (hR _ fmR_38_4) ?_
                refine w_iload rfl rfl ?_
                refine w_pushL rfl ?_
                refine w_lastv (j := 31) rfl rfl (by decide) (by unfold vp_in; decide) rfl ?_
                refine w_iincv (z := 32) rfl rfl (by decide) rfl ?_
                refine w_goto rfl ?_
                refine w_iload rfl rfl ?_
                refine w_pushI rfl ?_
                refine w_icmp_ge rfl (fun h => absurd h (by decide)) (fun _ => ?_)
                refine w_aload rfl rfl ?_
                refine w_getR (r := 39) rfl rfl (hR _ fmR_38_4) ?_
                refine w_iload rfl rfl ?_
                refine w_pushL rfl ?_
                refine w_lastv (j := 32) rfl rfl (by decide) (by unfold vp_in; decide) rfl ?_
                refine w_iincv (z := 33) rfl rfl (by decide) rfl ?_
                refine w_goto rfl ?_
                refine w_iload rfl rfl ?_
                refine w_pushI rfl ?_
                refine w_icmp_ge rfl (fun h => absurd h (by decide)) (fun _ => ?_)
                refine w_aload rfl rfl ?_
                refine w_getR (r := 39) rfl rfl (hR _ fmR_38_4) ?_
                refine w_iload rfl rfl ?_
                refine w_pushL rfl ?_
                refine w_lastv (j := 33) rfl rfl (by decide) (by unfold vp_in; decide) rfl ?_
                refine w_iincv (z := 34) rfl rfl (by decide) rfl ?_
                refine w_goto rfl ?_
                refine w_iload rfl rfl ?_
                refine w_pushI rfl ?_
                refine w_icmp_ge rfl (fun h => absurd h (by decide)) (fun _ => ?_)
                refine w_aload rfl rfl ?_
                refine w_getR (r := 39) rfl rfl (hR _ fmR_38_4) ?_
                refine w_iload rfl rfl ?_
                refine w_pushL rfl ?_
                refine w_lastv (j := 34) rfl rfl (by decide) (by unfold vp_in; decide) rfl ?_
                refine w_iincv (z := 35) rfl rfl (by decide) rfl ?_
                refine w_goto rfl ?_
                refine w_iload rfl rfl ?_
                refine w_pushI rfl ?_
                refine w_icmp_ge rfl (fun h => absurd h (by decide)) (fun _ => ?_)
                refine w_aload rfl rfl ?_
                refine w_getR (r := 39) rfl rfl (hR _ fmR_38_4) ?_
                refine w_iload rfl rfl ?_
                refine w_pushL rfl ?_
                refine w_lastv (j := 35) rfl rfl (by decide) (by unfold vp_in; decide) rfl ?_
                refine w_iincv (z := 36) rfl rfl (by decide) rfl ?_
                refine w_goto rfl ?_
                refine w_iload rfl rfl ?_
                refine w_pushI rfl ?_
                refine w_icmp_ge rfl (fun h => absurd h (by decide)) (fun _ => ?_)
                refine w_aload rfl rfl ?_
                refine w_getR (r := 39) rfl rfl (hR _ fmR_38_4) ?_
                refine w_iload rfl rfl ?_
                refine w_pushL rfl ?_
                refine w_lastv (j := 36) rfl rfl (by decide) (by unfold vp_in; decide) rfl ?_
                refine w_iincv (z := 37) rfl rfl (by decide) rfl ?_
                refine w_goto rfl ?_
                refine w_iload rfl rfl ?_
                refine w_pushI rfl ?_
                refine w_icmp_ge rfl (fun h => absurd h (by decide)) (fun _ => ?_)
                refine w_aload rfl rfl ?_
                refine w_getR (r := 39) rfl rfl (hR _ fmR_38_4) ?_
                refine w_iload rfl rfl ?_
                refine w_pushL rfl ?_
                refine w_lastv (j := 37) rfl rfl (by decide) (by unfold vp_in; decide) rfl ?_
                refine w_iincv (z := 38) rfl rfl (by decide) rfl ?_
                refine w_goto rfl ?_
                refine w_iload rfl rfl ?_
                refine w_pushI rfl ?_
                refine w_icmp_ge rfl (fun h => absurd h (by decide)) (fun _ => ?_)
                refine w_aload rfl rfl ?_
                refine w_getR (r := 39) rfl rfl (hR _ fmR_38_4) ?_
                refine w_iload rfl rfl ?_
                refine w_pushL rfl ?_
                refine w_lastv (j := 38) rfl rfl (by decide) (by unfold vp_in; decide) rfl ?_
                refine w_iincv (z := 39) rfl rfl (by decide) rfl ?_
                refine w_goto rfl ?_
                refine w_iload rfl rfl ?_
                refine w_pushI rfl ?_
                refine w_icmp_ge rfl (fun h => absurd h (by decide)) (fun _ => ?_)
                refine w_aload rfl rfl ?_
                refine w_getR (r := 39) rfl rfl (hR _ fmR_38_4) ?_
                refine w_iload rfl rfl ?_
                refine w_pushL rfl ?_
                refine w_lastv (j := 39) rfl rfl (by decide) (by unfold vp_in; decide) rfl ?_
                refine w_iincv (z := 40) rfl rfl (by decide) rfl ?_
                refine w_goto rfl ?_
                refine w_iload rfl rfl ?_
                refine w_pushI rfl ?_
                refine w_icmp_ge rfl (fun h => absurd h (by decide)) (fun _ => ?_)
                refine w_aload rfl rfl ?_
                refine w_getR (r := 39) rfl rfl (hR _ fmR_38_4) ?_
                refine w_iload rfl rfl ?_
                refine w_pushL rfl ?_
                refine w_lastv (j := 40) rfl rfl (by decide) (by unfold vp_in; decide) rfl ?_
                refine w_iincv (z := 41) rfl rfl (by decide) rfl ?_
                refine w_goto rfl ?_
                refine w_iload rfl rfl ?_
                refine w_pushI rfl ?_
                refine w_icmp_ge rfl (fun h => absurd h (by decide)) (fun _ => ?_)
                refine w_aload rfl rfl ?_
                refine w_getR (r := 39) rfl rfl (hR _ fmR_38_4) ?_
                refine w_iload rfl rfl ?_
                refine w_pushL rfl ?_
                refine w_lastv (j := 41) rfl rfl (by decide) (by unfold vp_in; decide) rfl ?_
                refine w_iincv (z := 42) rfl rfl (by decide) rfl ?_
                refine w_goto rfl ?_
                refine w_iload rfl rfl ?_
                refine w_pushI rfl ?_
                refine w_icmp_ge rfl (fun h => absurd h (by decide)) (fun _ => ?_)
                refine w_aload rfl rfl ?_
                refine w_getR (r := 39) rfl rfl (hR _ fmR_38_4) ?_
                refine w_iload rfl rfl ?_
                refine w_pushL rfl ?_
                refine w_lastv (j := 42) rfl rfl (by decide) (by unfold vp_in; decide) rfl ?_
                refine w_iincv (z := 43) rfl rfl (by decide) rfl ?_
                refine w_goto rfl ?_
                refine w_iload rfl rfl ?_
                refine w_pushI rfl ?_
                refine w_icmp_ge rfl (fun h => absurd h (by decide)) (fun _ => ?_)
                refine w_aload rfl rfl ?_
                refine w_getR (r := 39) rfl rfl (hR _ fmR_38_4) ?_
                refine w_iload rfl rfl ?_
                refine w_pushL rfl ?_
                refine w_lastv (j := 43) rfl rfl (by decide) (by unfold vp_in; decide) rfl ?_
                refine w_iincv (z := 44) rfl rfl (by decide) rfl ?_
                refine w_goto rfl ?_
                refine w_iload rfl rfl ?_
                refine w_pushI rfl ?_
                refine w_icmp_ge rfl (fun h => absurd h (by decide)) (fun _ => ?_)
                refine w_aload rfl rfl ?_
                refine w_getR (r := 39) rfl rfl (hR _ fmR_38_4) ?_
                refine w_iload rfl rfl ?_
                refine w_pushL rfl ?_
                refine w_lastv (j := 44) rfl rfl (by decide) (by unfold vp_in; decide) rfl ?_
                refine w_iincv (z := 45) rfl rfl (by decide) rfl ?_
                refine w_goto rfl ?_
                refine w_iload rfl rfl ?_
                refine w_pushI rfl ?_
                refine w_icmp_ge rfl (fun h => absurd h (by decide)) (fun _ => ?_)
                refine w_aload rfl rfl ?_
                refine w_getR (r := 39) rfl rfl (hR _ fmR_38_4) ?_
                refine w_iload rfl rfl ?_
                refine w_pushL rfl ?_
                refine w_lastv (j := 45) rfl rfl (by decide) (by unfold vp_in; decide) rfl ?_
                refine w_iincv (z := 46) rfl rfl (by decide) rfl ?_
                refine w_goto rfl ?_
                refine w_iload rfl rfl ?_
                refine w_pushI rfl ?_
                refine w_icmp_ge rfl (fun h => absurd h (by decide)) (fun _ => ?_)
                refine w_aload rfl rfl ?_
                refine w_getR (r := 39) rfl rfl (hR _ fmR_38_4) ?_
                refine w_iload rfl rfl ?_
                refine w_pushL rfl ?_
                refine w_lastv (j := 46) rfl rfl (by decide) (by unfold vp_in; decide) rfl ?_
                refine w_iincv (z := 47) rfl rfl (by decide) rfl ?_
                refine w_goto rfl ?_
                refine w_iload rfl rfl ?_
                refine w_pushI rfl ?_
                refine w_icmp_ge rfl (fun h => absurd h (by decide)) (fun _ => ?_)
                refine w_aload rfl rfl ?_
                refine w_getR (r := 39) rfl rfl (hR _ fmR_38_4) ?_
                refine w_iload rfl rfl ?_
                refine w_pushL rfl ?_
                refine w_lastv (j := 47) rfl rfl (by decide) (by unfold vp_in; decide) rfl ?_
                refine w_iincv (z := 48) rfl rfl (by decide) rfl ?_
                refine w_goto rfl ?_
                refine w_iload rfl rfl ?_
                refine w_pushI rfl ?_
                refine w_icmp_ge rfl (fun h => absurd h (by decide)) (fun _ => ?_)
                refine w_aload rfl rfl ?_
                refine w_getR (r := 39) rfl rfl (hR _ fmR_38_4) ?_
                refine w_iload rfl rfl ?_
                refine w_pushL rfl ?_
                refine w_lastv (j := 48) rfl rfl (by decide) (by unfold vp_in; decide) rfl ?_
                refine w_iincv (z := 49) rfl rfl (by decide) rfl ?_
                refine w_goto rfl ?_
                refine w_iload rfl rfl ?_
                refine w_pushI rfl ?_
                refine w_icmp_ge rfl (fun h => absurd h (by decide)) (fun _ => ?_)
                refine w_aload rfl rfl ?_
                refine w_getR (r := 39) rfl rfl (hR _ fmR_38_4) ?_
                refine w_iload rfl rfl ?_
                refine w_pushL rfl ?_
                refine w_lastv (j := 49) rfl rfl (by decide) (by unfold vp_in; decide) rfl ?_
                refine w_iincv (z := 50) rfl rfl (by decide) rfl ?_
                refine w_goto rfl ?_
                refine w_iload rfl rfl ?_
                refine w_pushI rfl ?_
                refine w_icmp_ge rfl (fun h => absurd h (by decide)) (fun _ => ?_)
                refine w_aload rfl rfl ?_
                refine w_getR (r := 39) rfl rfl (hR _ fmR_38_4) ?_
                refine w_iload rfl rfl ?_
                refine w_pushL rfl ?_
                refine w_lastv (j := 50) rfl rfl (by decide) (by unfold vp_in; decide) rfl ?_
                refine w_iincv (z := 51) rfl rfl (by decide) rfl ?_
                refine w_goto rfl ?_
                refine w_iload rfl rfl ?_
                refine w_pushI rfl ?_
                refine w_icmp_ge rfl (fun h => absurd h (by decide)) (fun _ => ?_)
                refine w_aload rfl rfl ?_
                refine w_getR (r := 39) rfl rfl (hR _ fmR_38_4) ?_
                refine w_iload rfl rfl ?_
                refine w_pushL rfl ?_
                refine w_lastv (j := 51) rfl rfl (by decide) (by unfold vp_in; decide) rfl ?_
                refine w_iincv (z := 52) rfl rfl (by decide) rfl ?_
                refine w_goto rfl ?_
                refine w_iload rfl rfl ?_
                refine w_pushI rfl ?_
                refine w_icmp_ge rfl (fun h => absurd h (by decide)) (fun _ => ?_)
                refine w_aload rfl rfl ?_
                refine w_getR (r := 39) rfl rfl (hR _ fmR_38_4) ?_
                refine w_iload rfl rfl ?_
                refine w_pushL rfl ?_
                refine w_lastv (j := 52) rfl rfl (by decide) (by unfold vp_in; decide) rfl ?_
                refine w_iincv (z := 53) rfl rfl (by decide) rfl ?_
                refine w_goto rfl ?_
                refine w_iload rfl rfl ?_
                refine w_pushI rfl ?_
                refine w_icmp_ge rfl (fun h => absurd h (by decide)) (fun _ => ?_)
                refine w_aload rfl rfl ?_
                refine w_getR (r := 39) rfl rfl (hR _ fmR_38_4) ?_
                refine w_iload rfl rfl ?_
                refine w_pushL rfl ?_
                refine w_lastv (j := 53) rfl rfl (by decide) (by unfold vp_in; decide) rfl ?_
                refine w_iincv (z := 54) rfl rfl (by decide) rfl ?_
                refine w_goto rfl ?_
                refine w_iload rfl rfl ?_
                refine w_pushI rfl ?_
                refine w_icmp_ge rfl (fun h => absurd h (by decide)) (fun _ => ?_)
                refine w_aload rfl rfl ?_
                refine w_getR (r := 39) rfl rfl (hR _ fmR_38_4) ?_
                refine w_iload rfl rfl ?_
                refine w_pushL rfl ?_
                refine w_lastv (j := 54) rfl rfl (by decide) (by unfold vp_in; decide) rfl ?_
                refine w_iincv (z := 55) rfl rfl (by decide) rfl ?_
                refine w_goto rfl ?_
                refine w_iload rfl rfl ?_
                refine w_pushI rfl ?_
                refine w_icmp_ge rfl (fun h => absurd h (by decide)) (fun _ => ?_)
                refine w_aload rfl rfl ?_
                refine w_getR (r := 39) rfl rfl (hR _ fmR_38_4) ?_
                refine w_iload rfl rfl ?_
                refine w_pushL rfl ?_
                refine w_lastv (j := 55) rfl rfl (by decide) (by unfold vp_in; decide) rfl ?_
                refine w_iincv (z := 56) rfl rfl (by decide) rfl ?_
                refine w_goto rfl ?_
                refine w_iload rfl rfl ?_
                refine w_pushI rfl ?_
                refine w_icmp_ge rfl (fun h => absurd h (by decide)) (fun _ => ?_)
                refine w_aload rfl rfl ?_
                refine w_getR (r := 39) rfl rfl (hR _ fmR_38_4) ?_
                refine w_iload rfl rfl ?_
                refine w_pushL rfl ?_
                refine w_lastv (j := 56) rfl rfl (by decide) (by unfold vp_in; decide) rfl ?_
                refine w_iincv (z := 57) rfl rfl (by decide) rfl ?_
                refine w_goto rfl ?_
                refine w_iload rfl rfl ?_
                refine w_pushI rfl ?_
                refine w_icmp_ge rfl (fun h => absurd h (by decide)) (fun _ => ?_)
                refine w_aload rfl rfl ?_
                refine w_getR (r := 39) rfl rfl (hR _ fmR_38_4) ?_
                refine w_iload rfl rfl ?_
                refine w_pushL rfl ?_
                refine w_lastv (j := 57) rfl rfl (by decide) (by unfold vp_in; decide) rfl ?_
                refine w_iincv (z := 58) rfl rfl (by decide) rfl ?_
                refine w_goto rfl ?_
                refine w_iload rfl rfl ?_
                refine w_pushI rfl ?_
                refine w_icmp_ge rfl (fun h => absurd h (by decide)) (fun _ => ?_)
                refine w_aload rfl rfl ?_
                refine w_getR (r := 39) rfl rfl (hR _ fmR_38_4) ?_
                refine w_iload rfl rfl ?_
                refine w_pushL rfl ?_
                refine w_lastv (j := 58) rfl rfl (by decide) (by unfold vp_in; decide) rfl ?_
                refine w_iincv (z := 59) rfl rfl (by decide) rfl ?_
                refine w_goto rfl ?_
                refine w_iload rfl rfl ?_
                refine w_pushI rfl ?_
                refine w_icmp_ge rfl (fun h => absurd h (by decide)) (fun _ => ?_)
                refine w_aload rfl rfl ?_
                refine w_getR (r := 39) rfl rfl (hR _ fmR_38_4) ?_
                refine w_iload rfl rfl ?_
                refine w_pushL rfl ?_
                refine w_lastv (j := 59) rfl rfl (by decide) (by unfold vp_in; decide) rfl ?_
                refine w_iincv (z := 60) rfl rfl (by decide) rfl ?_
                refine w_goto rfl ?_
                refine w_iload rfl rfl ?_
                refine w_pushI rfl ?_
                refine w_icmp_ge rfl (fun _ => ?_) (fun h => absurd (by decide) h)
                refine w_vret rfl rfl ?_
                show gW _ _ _ _ _ _ _ _ _ _
                refine w_pushI rfl ?_
                refine w_iret rfl (Or.inl rfl) ?_
                exact ⟨congrArg (fun v => some (Value.int v)) (show (1 : Int32) = f1_row (0) b c by have e0 : (0 : Int32).toInt = 0 := rfl; exact ite_eq_of (fun _ => ite_eq_of (fun hc => absurd hc (by omega)) (fun _ => rfl)) (fun hc => absurd (by omega) hc)), rfl, fun x hx => (gU_o (by omega)).trans ((gU_o (by omega)).trans (gU_o (by omega))), fun x hx => (gU_o (by omega)).trans ((gU_o (by omega)).trans ((gU_o (by omega)).trans ((gU_o (by omega)).trans ((gU_o (by omega)).trans ((gU_o (by omega)).trans ((gU_o (by omega)).trans ((gU_o (by omega)).trans ((gU_o (by omega)).trans ((gU_o (by omega)).trans ((gU_o (by omega)).trans ((gU_o (by omega)).trans ((gU_o (by omega)).trans ((gU_o (by omega)).trans ((gU_o (by omega)).trans ((gU_o (by omega)).trans ((gU_o (by omega)).trans ((gU_o (by omega)).trans ((gU_o (by omega)).trans ((gU_o (by omega)).trans ((gU_o (by omega)).trans ((gU_o (by omega)).trans ((gU_o (by omega)).trans ((gU_o (by omega)).trans ((gU_o (by omega)).trans ((gU_o (by omega)).trans ((gU_o (by omega)).trans ((gU_o (by omega)).trans ((gU_o (by omega)).trans ((gU_o (by omega)).trans ((gU_o (by omega)).trans ((gU_o (by omega)).trans ((gU_o (by omega)).trans ((gU_o (by omega)).trans ((gU_o (by omega)).trans ((gU_o (by omega)).trans ((gU_o (by omega)).trans ((gU_o (by omega)).trans ((gU_o (by omega)).trans ((gU_o (by omega)).trans ((gU_o (by omega)).trans ((gU_o (by omega)).trans ((gU_o (by omega)).trans ((gU_o (by omega)).trans ((gU_o (by omega)).trans ((gU_o (by omega)).trans ((gU_o (by omega)).trans ((gU_o (by omega)).trans ((gU_o (by omega)).trans ((gU_o (by omega)).trans ((gU_o (by omega)).trans ((gU_o (by omega)).trans ((gU_o (by omega)).trans ((gU_o (by omega)).trans ((gU_o (by omega)).trans ((gU_o (by omega)).trans ((gU_o (by omega)).trans ((gU_o (by omega)).trans ((gU_o (by omega)).trans (gU_o (by omega)))))))))))))))))))))))))))))))))))))))))))))))))))))))))))), fun x hx => rfl⟩
              · obtain rfl : a = 1 := i_is hs7 (by decide)
                refine w_aaldv (j := 1) (r := 40) rfl rfl (by decide) (by unfold vp_in; decide) (hR _ fmR_37_1) ?_
                refine w_iload rfl rfl ?_
                refine w_iload rfl rfl ?_
                refine w_callVi (As := [_, _]) (le := [some _, some _, some _, none]) rfl rfl rfl (Nat.le_of_ble_eq_true rfl) (Nat.le_of_ble_eq_true rfl) rfl ?_
                refine w_aload rfl rfl ?_
                refine w_pushI rfl ?_
                refine w_putI rfl rfl ?_
                refine w_aload rfl rfl ?_
                refine w_iload rfl rfl ?_
                refine w_putI rfl rfl ?_
                refine w_aload rfl rfl ?_
                refine w_iload rfl rfl ?_
                refine w_putI rfl rfl ?_
                refine w_pushI rfl ?_
                refine w_istore rfl rfl ?_
                refine w_iload rfl rfl ?_
                refine w_pushI rfl ?_
                refine w_icmp_ge rfl (fun h => absurd h (by decide)) (fun _ => ?_)
                refine w_aload rfl rfl ?_
                refine w_getR (r := 41) rfl rfl (hR _ fmR_40_4) ?_
                refine w_iload rfl rfl ?_
                refine w_pushL rfl ?_
                refine w_lastv (j := 0) rfl rfl (by decide) (by unfold vp_in; decide) rfl ?_
                refine w_iincv (z := 1) rfl rfl (by decide) rfl ?_
                refine w_goto rfl ?_
                refine w_iload rfl rfl ?_
                refine w_pushI rfl ?_
                refine w_icmp_ge rfl (fun h => absurd h (by decide)) (fun _ => ?_)
                refine w_aload rfl rfl ?_
                refine w_getR (r := 41) rfl rfl (hR _ fmR_40_4) ?_
                refine w_iload rfl rfl ?_
                refine w_pushL rfl ?_
                refine w_lastv (j := 1) rfl rfl (by decide) (by unfold vp_in; decide) rfl ?_
                refine w_iincv (z := 2) rfl rfl (by decide) rfl ?_
                refine w_goto rfl ?_
                refine w_iload rfl rfl ?_
                refine w_pushI rfl ?_
                refine w_icmp_ge rfl (fun h => absurd h (by decide)) (fun _ => ?_)
                refine w_aload rfl rfl ?_
                refine w_getR (r := 41) rfl rfl (hR _ fmR_40_4) ?_
                refine w_iload rfl rfl ?_
                refine w_pushL rfl ?_
                refine w_lastv (j := 2) rfl rfl (by decide) (by unfold vp_in; decide) rfl ?_
                refine w_iincv (z := 3) rfl rfl (by decide) rfl ?_
                refine w_goto rfl ?_
                refine w_iload rfl rfl ?_
                refine w_pushI rfl ?_
                refine w_icmp_ge rfl (fun h => absurd h (by decide)) (fun _ => ?_)
                refine w_aload rfl rfl ?_
                refine w_getR (r := 41) rfl rfl (hR _ fmR_40_4) ?_
                refine w_iload rfl rfl ?_
                refine w_pushL rfl ?_
                refine w_lastv (j := 3) rfl rfl (by decide) (by unfold vp_in; decide) rfl ?_
                refine w_iincv (z := 4) rfl rfl (by decide) rfl ?_
                refine w_goto rfl ?_
                refine w_iload rfl rfl ?_
                refine w_pushI rfl ?_
                refine w_icmp_ge rfl (fun h => absurd h (by decide)) (fun _ => ?_)
                refine w_aload rfl rfl ?_
                refine w_getR (r := 41) rfl rfl (hR _ fmR_40_4) ?_
                refine w_iload rfl rfl ?_
                refine w_pushL rfl ?_
                refine w_lastv (j := 4) rfl rfl (by decide) (by unfold vp_in; decide) rfl ?_
                refine w_iincv (z := 5) rfl rfl (by decide) rfl ?_
                refine w_goto rfl ?_
                refine w_iload rfl rfl ?_
                refine w_pushI rfl ?_
                refine w_icmp_ge rfl (fun h => absurd h (by decide)) (fun _ => ?_)
                refine w_aload rfl rfl ?_
                refine w_getR (r := 41) rfl rfl (hR _ fmR_40_4) ?_
                refine w_iload rfl rfl ?_
                refine w_pushL rfl ?_
                refine w_lastv (j := 5) rfl rfl (by decide) (by unfold vp_in; decide) rfl ?_
                refine w_iincv (z := 6) rfl rfl (by decide) rfl ?_
                refine w_goto rfl ?_
                refine w_iload rfl rfl ?_
                refine w_pushI rfl ?_
                refine w_icmp_ge rfl (fun h => absurd h (by decide)) (fun _ => ?_)
                refine w_aload rfl rfl ?_
                refine w_getR (r := 41) rfl rfl (hR _ fmR_40_4) ?_
                refine w_iload rfl rfl ?_
                refine w_pushL rfl ?_
                refine w_lastv (j := 6) rfl rfl (by decide) (by unfold vp_in; decide) rfl ?_
                refine w_iincv (z := 7) rfl rfl (by decide) rfl ?_
                refine w_goto rfl ?_
                refine w_iload rfl rfl ?_
                refine w_pushI rfl ?_
                refine w_icmp_ge rfl (fun h => absurd h (by decide)) (fun _ => ?_)
                refine w_aload rfl rfl ?_
                refine w_getR (r := 41) rfl rfl (hR _ fmR_40_4) ?_
                refine w_iload rfl rfl ?_
                refine w_pushL rfl ?_
                refine w_lastv (j := 7) rfl rfl (by decide) (by unfold vp_in; decide) rfl ?_
                refine w_iincv (z := 8) rfl rfl (by decide) rfl ?_
                refine w_goto rfl ?_
                refine w_iload rfl rfl ?_
                refine w_pushI rfl ?_
                refine w_icmp_ge rfl (fun h => absurd h (by decide)) (fun _ => ?_)
                refine w_aload rfl rfl ?_
                refine w_getR (r := 41) rfl rfl (hR _ fmR_40_4) ?_
                refine w_iload rfl rfl ?_
                refine w_pushL rfl ?_
                refine w_lastv (j := 8) rfl rfl (by decide) (by unfold vp_in; decide) rfl ?_
                refine w_iincv (z := 9) rfl rfl (by decide) rfl ?_
                refine w_goto rfl ?_
                refine w_iload rfl rfl ?_
                refine w_pushI rfl ?_
                refine w_icmp_ge rfl (fun h => absurd h (by decide)) (fun _ => ?_)
                refine w_aload rfl rfl ?_
                refine w_getR (r := 41) rfl rfl (hR _ fmR_40_4) ?_
                refine w_iload rfl rfl ?_
                refine w_pushL rfl ?_
                refine w_lastv (j := 9) rfl rfl (by decide) (by unfold vp_in; decide) rfl ?_
                refine w_iincv (z := 10) rfl rfl (by decide) rfl ?_
                refine w_goto rfl ?_
                refine w_iload rfl rfl ?_
                refine w_pushI rfl ?_
                refine w_icmp_ge rfl (fun h => absurd h (by decide)) (fun _ => ?_)
                refine w_aload rfl rfl ?_
                refine w_getR (r := 41) rfl rfl (hR _ fmR_40_4) ?_
                refine w_iload rfl rfl ?_
                refine w_pushL rfl ?_
                refine w_lastv (j := 10) rfl rfl (by decide) (by unfold vp_in; decide) rfl ?_
                refine w_iincv (z := 11) rfl rfl (by decide) rfl ?_
                refine w_goto rfl ?_
                refine w_iload rfl rfl ?_
                refine w_pushI rfl ?_
                refine w_icmp_ge rfl (fun h => absurd h (by decide)) (fun _ => ?_)
                refine w_aload rfl rfl ?_
                refine w_getR (r := 41) rfl rfl (hR _ fmR_40_4) ?_
                refine w_iload rfl rfl ?_
                refine w_pushL rfl ?_
                refine w_lastv (j := 11) rfl rfl (by decide) (by unfold vp_in; decide) rfl ?_
                refine w_iincv (z := 12) rfl rfl (by decide) rfl ?_
                refine w_goto rfl ?_
                refine w_iload rfl rfl ?_
                refine w_pushI rfl ?_
                refine w_icmp_ge rfl (fun h => absurd h (by decide)) (fun _ => ?_)
                refine w_aload rfl rfl ?_
                refine w_getR (r := 41) rfl rfl (hR _ fmR_40_4) ?_
                refine w_iload rfl rfl ?_
                refine w_pushL rfl ?_
                refine w_lastv (j := 12) rfl rfl (by decide) (by unfold vp_in; decide) rfl ?_
                refine w_iincv (z := 13) rfl rfl (by decide) rfl ?_
                refine w_goto rfl ?_
                refine w_iload rfl rfl ?_
                refine w_pushI rfl ?_
                refine w_icmp_ge rfl (fun h => absurd h (by decide)) (fun _ => ?_)
                refine w_aload rfl rfl ?_
                refine w_getR (r := 41) rfl rfl (hR _ fmR_40_4) ?_
                refine w_iload rfl rfl ?_
                refine w_pushL rfl ?_
                refine w_lastv (j := 13) rfl rfl (by decide) (by unfold vp_in; decide) rfl ?_
                refine w_iincv (z := 14) rfl rfl (by decide) rfl ?_
                refine w_goto rfl ?_
                refine w_iload rfl rfl ?_
                refine w_pushI rfl ?_
                refine w_icmp_ge rfl (fun h => absurd h (by decide)) (fun _ => ?_)
                refine w_aload rfl rfl ?_
                refine w_getR (r := 41) rfl rfl (hR _ fmR_40_4) ?_
                refine w_iload rfl rfl ?_
                refine w_pushL rfl ?_
                refine w_lastv (j := 14) rfl rfl (by decide) (by unfold vp_in; decide) rfl ?_
                refine w_iincv (z := 15) rfl rfl (by decide) rfl ?_
                refine w_goto rfl ?_
                refine w_iload rfl rfl ?_
                refine w_pushI rfl ?_
                refine w_icmp_ge rfl (fun h => absurd h (by decide)) (fun _ => ?_)
                refine w_aload rfl rfl ?_
                refine w_getR (r := 41) rfl rfl (hR _ fmR_40_4) ?_
                refine w_iload rfl rfl ?_
                refine w_pushL rfl ?_
                refine w_lastv (j := 15) rfl rfl (by decide) (by unfold vp_in; decide) rfl ?_
                refine w_iincv (z := 16) rfl rfl (by decide) rfl ?_
                refine w_goto rfl ?_
                refine w_iload rfl rfl ?_
                refine w_pushI rfl ?_
                refine w_icmp_ge rfl (fun h => absurd h (by decide)) (fun _ => ?_)
                refine w_aload rfl rfl ?_
                refine w_getR (r := 41) rfl rfl (hR _ fmR_40_4) ?_
                refine w_iload rfl rfl ?_
                refine w_pushL rfl ?_
                refine w_lastv (j := 16) rfl rfl (by decide) (by unfold vp_in; decide) rfl ?_
                refine w_iincv (z := 17) rfl rfl (by decide) rfl ?_
                refine w_goto rfl ?_
                refine w_iload rfl rfl ?_
                refine w_pushI rfl ?_
                refine w_icmp_ge rfl (fun h => absurd h (by decide)) (fun _ => ?_)
                refine w_aload rfl rfl ?_
                refine w_getR (r := 41) rfl rfl (hR _ fmR_40_4) ?_
                refine w_iload rfl rfl ?_
                refine w_pushL rfl ?_
                refine w_lastv (j := 17) rfl rfl (by decide) (by unfold vp_in; decide) rfl ?_
                refine w_iincv (z := 18) rfl rfl (by decide) rfl ?_
                refine w_goto rfl ?_
                refine w_iload rfl rfl ?_
                refine w_pushI rfl ?_
                refine w_icmp_ge rfl (fun h => absurd h (by decide)) (fun _ => ?_)
                refine w_aload rfl rfl ?_
                refine w_getR (r := 41) rfl rfl (hR _ fmR_40_4) ?_
                refine w_iload rfl rfl ?_
                refine w_pushL rfl ?_
                refine w_lastv (j := 18) rfl rfl (by decide) (by unfold vp_in; decide) rfl ?_
                refine w_iincv (z := 19) rfl rfl (by decide) rfl ?_
                refine w_goto rfl ?_
                refine w_iload rfl rfl ?_
                refine w_pushI rfl ?_
                refine w_icmp_ge rfl (fun h => absurd h (by decide)) (fun _ => ?_)
                refine w_aload rfl rfl ?_
                refine w_getR (r := 41) rfl rfl (hR _ fmR_40_4) ?_
                refine w_iload rfl rfl ?_
                refine w_pushL rfl ?_
                refine w_lastv (j := 19) rfl rfl (by decide) (by unfold vp_in; decide) rfl ?_
                refine w_iincv (z := 20) rfl rfl (by decide) rfl ?_
                refine w_goto rfl ?_
                refine w_iload rfl rfl ?_
                refine w_pushI rfl ?_
                refine w_icmp_ge rfl (fun h => absurd h (by decide)) (fun _ => ?_)
                refine w_aload rfl rfl ?_
                refine w_getR (r := 41) rfl rfl (hR _ fmR_40_4) ?_
                refine w_iload rfl rfl ?_
                refine w_pushL rfl ?_
                refine w_lastv (j := 20) rfl rfl (by decide) (by unfold vp_in; decide) rfl ?_
                refine w_iincv (z := 21) rfl rfl (by decide) rfl ?_
                refine w_goto rfl ?_
                refine w_iload rfl rfl ?_
                refine w_pushI rfl ?_
                refine w_icmp_ge rfl (fun h => absurd h (by decide)) (fun _ => ?_)
                refine w_aload rfl rfl ?_
                refine w_getR (r := 41) rfl rfl (hR _ fmR_40_4) ?_
                refine w_iload rfl rfl ?_
                refine w_pushL rfl ?_
                refine w_lastv (j := 21) rfl rfl (by decide) (by unfold vp_in; decide) rfl ?_
                refine w_iincv (z := 22) rfl rfl (by decide) rfl ?_
                refine w_goto rfl ?_
                refine w_iload rfl rfl ?_
                refine w_pushI rfl ?_
                refine w_icmp_ge rfl (fun h => absurd h (by decide)) (fun _ => ?_)
                refine w_aload rfl rfl ?_
                refine w_getR (r := 41) rfl rfl (hR _ fmR_40_4) ?_
                refine w_iload rfl rfl ?_
                refine w_pushL rfl ?_
                refine w_lastv (j := 22) rfl rfl (by decide) (by unfold vp_in; decide) rfl ?_
                refine w_iincv (z := 23) rfl rfl (by decide) rfl ?_
                refine w_goto rfl ?_
                refine w_iload rfl rfl ?_
                refine w_pushI rfl ?_
                refine w_icmp_ge rfl (fun h => absurd h (by decide)) (fun _ => ?_)
                refine w_aload rfl rfl ?_
                refine w_getR (r := 41) rfl rfl (hR _ fmR_40_4) ?_
                refine w_iload rfl rfl ?_
                refine w_pushL rfl ?_
                refine w_lastv (j := 23) rfl rfl (by decide) (by unfold vp_in; decide) rfl ?_
                refine w_iincv (z := 24) rfl rfl (by decide) rfl ?_
                refine w_goto rfl ?_
                refine w_iload rfl rfl ?_
                refine w_pushI rfl ?_
                refine w_icmp_ge rfl (fun h => absurd h (by decide)) (fun _ => ?_)
                refine w_aload rfl rfl ?_
                refine w_getR (r := 41) rfl rfl (hR _ fmR_40_4) ?_
                refine w_iload rfl rfl ?_
                refine w_pushL rfl ?_
                refine w_lastv (j := 24) rfl rfl (by decide) (by unfold vp_in; decide) rfl ?_
                refine w_iincv (z := 25) rfl rfl (by decide) rfl ?_
                refine w_goto rfl ?_
                refine w_iload rfl rfl ?_
                refine w_pushI rfl ?_
                refine w_icmp_ge rfl (fun h => absurd h (by decide)) (fun _ => ?_)
                refine w_aload rfl rfl ?_
                refine w_getR (r := 41) rfl rfl (hR _ fmR_40_4) ?_
                refine w_iload rfl rfl ?_
                refine w_pushL rfl ?_
                refine w_lastv (j := 25) rfl rfl (by decide) (by unfold vp_in; decide) rfl ?_
                refine w_iincv (z := 26) rfl rfl (by decide) rfl ?_
                refine w_goto rfl ?_
                refine w_iload rfl rfl ?_
                refine w_pushI rfl ?_
                refine w_icmp_ge rfl (fun h => absurd h (by decide)) (fun _ => ?_)
                refine w_aload rfl rfl ?_
                refine w_getR (r := 41) rfl rfl (hR _ fmR_40_4) ?_
                refine w_iload rfl rfl ?_
                refine w_pushL rfl ?_
                refine w_lastv (j := 26) rfl rfl (by decide) (by unfold vp_in; decide) rfl ?_
                refine w_iincv (z := 27) rfl rfl (by decide) rfl ?_
                refine w_goto rfl ?_
                refine w_iload rfl rfl ?_
                refine w_pushI rfl ?_
                refine w_icmp_ge rfl (fun h => absurd h (by decide)) (fun _ => ?_)
                refine w_aload rfl rfl ?_
                refine w_getR (r := 41) rfl rfl (hR _ fmR_40_4) ?_
                refine w_iload rfl rfl ?_
                refine w_pushL rfl ?_
                refine w_lastv (j := 27) rfl rfl (by decide) (by unfold vp_in; decide) rfl ?_
                refine w_iincv (z := 28) rfl rfl (by decide) rfl ?_
                refine w_goto rfl ?_
                refine w_iload rfl rfl ?_
                refine w_pushI rfl ?_
                refine w_icmp_ge rfl (fun h => absurd h (by decide)) (fun _ => ?_)
                refine w_aload rfl rfl ?_
                refine w_getR (r := 41) rfl rfl (hR _ fmR_40_4) ?_
                refine w_iload rfl rfl ?_
                refine w_pushL rfl ?_
                refine w_lastv (j := 28) rfl rfl (by decide) (by unfold vp_in; decide) rfl ?_
                refine w_iincv (z := 29) rfl rfl (by decide) rfl ?_
                refine w_goto rfl ?_
                refine w_iload rfl rfl ?_
                refine w_pushI rfl ?_
                refine w_icmp_ge rfl (fun h => absurd h (by decide)) (fun _ => ?_)
                refine w_aload rfl rfl ?_
                refine w_getR (r := 41) rfl rfl (hR _ fmR_40_4) ?_
                refine w_iload rfl rfl ?_
                refine w_pushL rfl ?_
                refine w_lastv (j := 29) rfl rfl (by decide) (by unfold vp_in; decide) rfl ?_
                refine w_iincv (z := 30) rfl rfl (by decide) rfl ?_
                refine w_goto rfl ?_
                refine w_iload rfl rfl ?_
                refine w_pushI rfl ?_
                refine w_icmp_ge rfl (fun h => absurd h (by decide)) (fun _ => ?_)
                refine w_aload rfl rfl ?_
                refine w_getR (r := 41) rfl rfl (hR _ fmR_40_4) ?_
                refine w_iload rfl rfl ?_
                refine w_pushL rfl ?_
                refine w_lastv (j := 30) rfl rfl (by decide) (by unfold vp_in; decide) rfl ?_
                refine w_iincv (z := 31) rfl rfl (by decide) rfl ?_
                refine w_goto rfl ?_
                refine w_iload rfl rfl ?_
                refine w_pushI rfl ?_
                refine w_icmp_ge rfl (fun h => absurd h (by decide)) (fun _ => ?_)
                refine w_aload rfl rfl ?_
                refine w_getR (r := 41) rfl rfl (hR _ fmR_40_4) ?_
                refine w_iload rfl rfl ?_
                refine w_pushL rfl ?_
                refine w_lastv (j := 31) rfl rfl (by decide) (by unfold vp_in; decide) rfl ?_
                refine w_iincv (z := 32) rfl rfl (by decide) rfl ?_
                refine w_goto rfl ?_
                refine w_iload rfl rfl ?_
                refine w_pushI rfl ?_
                refine w_icmp_ge rfl (fun h => absurd h (by decide)) (fun _ => ?_)
                refine w_aload rfl rfl ?_
                refine w_getR (r := 41) rfl rfl (hR _ fmR_40_4) ?_
                refine w_iload rfl rfl ?_
                refine w_pushL rfl ?_
                refine w_lastv (j := 32) rfl rfl (by decide) (by unfold vp_in; decide) rfl ?_
                refine w_iincv (z := 33) rfl rfl (by decide) rfl ?_
                refine w_goto rfl ?_
                refine w_iload rfl rfl ?_
                refine w_pushI rfl ?_
                refine w_icmp_ge rfl (fun h => absurd h (by decide)) (fun _ => ?_)
                refine w_aload rfl rfl ?_
                refine w_getR (r := 41) rfl rfl (hR _ fmR_40_4) ?_
                refine w_iload rfl rfl ?_
                refine w_pushL rfl ?_
                refine w_lastv (j := 33) rfl rfl (by decide) (by unfold vp_in; decide) rfl ?_
                refine w_iincv (z := 34) rfl rfl (by decide) rfl ?_
                refine w_goto rfl ?_
                refine w_iload rfl rfl ?_
                refine w_pushI rfl ?_
                refine w_icmp_ge rfl (fun h => absurd h (by decide)) (fun _ => ?_)
                refine w_aload rfl rfl ?_
                refine w_getR (r := 41) rfl rfl (hR _ fmR_40_4) ?_
                refine w_iload rfl rfl ?_
                refine w_pushL rfl ?_
                refine w_lastv (j := 34) rfl rfl (by decide) (by unfold vp_in; decide) rfl ?_
                refine w_iincv (z := 35) rfl rfl (by decide) rfl ?_
                refine w_goto rfl ?_
                refine w_iload rfl rfl ?_
                refine w_pushI rfl ?_
                refine w_icmp_ge rfl (fun h => absurd h (by decide)) (fun _ => ?_)
                refine w_aload rfl rfl ?_
                refine w_getR (r := 41) rfl rfl (hR _ fmR_40_4) ?_
                refine w_iload rfl rfl ?_
                refine w_pushL rfl ?_
                refine w_lastv (j := 35) rfl rfl (by decide) (by unfold vp_in; decide) rfl ?_
                refine w_iincv (z := 36) rfl rfl (by decide) rfl ?_
                refine w_goto rfl ?_
                refine w_iload rfl rfl ?_
                refine w_pushI rfl ?_
                refine w_icmp_ge rfl (fun h => absurd h (by decide)) (fun _ => ?_)
                refine w_aload rfl rfl ?_
                refine w_getR (r := 41) rfl rfl (hR _ fmR_40_4) ?_
                refine w_iload rfl rfl ?_
                refine w_pushL rfl ?_
                refine w_lastv (j := 36) rfl rfl (by decide) (by unfold vp_in; decide) rfl ?_
                refine w_iincv (z := 37) rfl rfl (by decide) rfl ?_
                refine w_goto rfl ?_
                refine w_iload rfl rfl ?_
                refine w_pushI rfl ?_
                refine w_icmp_ge rfl (fun h => absurd h (by decide)) (fun _ => ?_)
                refine w_aload rfl rfl ?_
                refine w_getR (r := 41) rfl rfl (hR _ fmR_40_4) ?_
                refine w_iload rfl rfl ?_
                refine w_pushL rfl ?_
                refine w_lastv (j := 37) rfl rfl (by decide) (by unfold vp_in; decide) rfl ?_
                refine w_iincv (z := 38) rfl rfl (by decide) rfl ?_
                refine w_goto rfl ?_
                refine w_iload rfl rfl ?_
                refine w_pushI rfl ?_
                refine w_icmp_ge rfl (fun h => absurd h (by decide)) (fun _ => ?_)
                refine w_aload rfl rfl ?_
                refine w_getR (r := 41) rfl rfl (hR _ fmR_40_4) ?_
                refine w_iload rfl rfl ?_
                refine w_pushL rfl ?_
                refine w_lastv (j := 38) rfl rfl (by decide) (by unfold vp_in; decide) rfl ?_
                refine w_iincv (z := 39) rfl rfl (by decide) rfl ?_
                refine w_goto rfl ?_
                refine w_iload rfl rfl ?_
                refine w_pushI rfl ?_
                refine w_icmp_ge rfl (fun h => absurd h (by decide)) (fun _ => ?_)
                refine w_aload rfl rfl ?_
                refine w_getR (r := 41) rfl rfl (hR _ fmR_40_4) ?_
                refine w_iload rfl rfl ?_
                refine w_pushL rfl ?_
                refine w_lastv (j := 39) rfl rfl (by decide) (by unfold vp_in; decide) rfl ?_
                refine w_iincv (z := 40) rfl rfl (by decide) rfl ?_
                refine w_goto rfl ?_
                refine w_iload rfl rfl ?_
                refine w_pushI rfl ?_
                refine w_icmp_ge rfl (fun h => absurd h (by decide)) (fun _ => ?_)
                refine w_aload rfl rfl ?_
                refine w_getR (r := 41) rfl rfl (hR _ fmR_40_4) ?_
                refine w_iload rfl rfl ?_
                refine w_pushL rfl ?_
                refine w_lastv (j := 40) rfl rfl (by decide) (by unfold vp_in; decide) rfl ?_
                refine w_iincv (z := 41) rfl rfl (by decide) rfl ?_
                refine w_goto rfl ?_
                refine w_iload rfl rfl ?_
                refine w_pushI rfl ?_
                refine w_icmp_ge rfl (fun h => absurd h (by decide)) (fun _ => ?_)
                refine w_aload rfl rfl ?_
                refine w_getR (r := 41) rfl rfl (hR _ fmR_40_4) ?_
                refine w_iload rfl rfl ?_
                refine w_pushL rfl ?_
                refine w_lastv (j := 41) rfl rfl (by decide) (by unfold vp_in; decide) rfl ?_
                refine w_iincv (z := 42) rfl rfl (by decide) rfl ?_
                refine w_goto rfl ?_
                refine w_iload rfl rfl ?_
                refine w_pushI rfl ?_
                refine w_icmp_ge rfl (fun h => absurd h (by decide)) (fun _ => ?_)
                refine w_aload rfl rfl ?_
                refine w_getR (r := 41) rfl rfl (hR _ fmR_40_4) ?_
                refine w_iload rfl rfl ?_
                refine w_pushL rfl ?_
                refine w_lastv (j := 42) rfl rfl (by decide) (by unfold vp_in; decide) rfl ?_
                refine w_iincv (z := 43) rfl rfl (by decide) rfl ?_
                refine w_goto rfl ?_
                refine w_iload rfl rfl ?_
                refine w_pushI rfl ?_
                refine w_icmp_ge rfl (fun h => absurd h (by decide)) (fun _ => ?_)
                refine w_aload rfl rfl ?_
                refine w_getR (r := 41) rfl rfl (hR _ fmR_40_4) ?_
                refine w_iload rfl rfl ?_
                refine w_pushL rfl ?_
                refine w_lastv (j := 43) rfl rfl (by decide) (by unfold vp_in; decide) rfl ?_
                refine w_iincv (z := 44) rfl rfl (by decide) rfl ?_
                refine w_goto rfl ?_
                refine w_iload rfl rfl ?_
                refine w_pushI rfl ?_
                refine w_icmp_ge rfl (fun h => absurd h (by decide)) (fun _ => ?_)
                refine w_aload rfl rfl ?_
                refine w_getR (r := 41) rfl rfl (hR _ fmR_40_4) ?_
                refine w_iload rfl rfl ?_
                refine w_pushL rfl ?_
                refine w_lastv (j := 44) rfl rfl (by decide) (by unfold vp_in; decide) rfl ?_
                refine w_iincv (z := 45) rfl rfl (by decide) rfl ?_
                refine w_goto rfl ?_
                refine w_iload rfl rfl ?_
                refine w_pushI rfl ?_
                refine w_icmp_ge rfl (fun h => absurd h (by decide)) (fun _ => ?_)
                refine w_aload rfl rfl ?_
                refine w_getR (r := 41) rfl rfl (hR _ fmR_40_4) ?_
                refine w_iload rfl rfl ?_
                refine w_pushL rfl ?_
                refine w_lastv (j := 45) rfl rfl (by decide) (by unfold vp_in; decide) rfl ?_
                refine w_iincv (z := 46) rfl rfl (by decide) rfl ?_
                refine w_goto rfl ?_
                refine w_iload rfl rfl ?_
                refine w_pushI rfl ?_
                refine w_icmp_ge rfl (fun h => absurd h (by decide)) (fun _ => ?_)
                refine w_aload rfl rfl ?_
                refine w_getR (r := 41) rfl rfl (hR _ fmR_40_4) ?_
                refine w_iload rfl rfl ?_
                refine w_pushL rfl ?_
                refine w_lastv (j := 46) rfl rfl (by decide) (by unfold vp_in; decide) rfl ?_
                refine w_iincv (z := 47) rfl rfl (by decide) rfl ?_
                refine w_goto rfl ?_
                refine w_iload rfl rfl ?_
                refine w_pushI rfl ?_
                refine w_icmp_ge rfl (fun h => absurd h (by decide)) (fun _ => ?_)
                refine w_aload rfl rfl ?_
                refine w_getR (r := 41) rfl rfl (hR _ fmR_40_4) ?_
                refine w_iload rfl rfl ?_
                refine w_pushL rfl ?_
                refine w_lastv (j := 47) rfl rfl (by decide) (by unfold vp_in; decide) rfl ?_
                refine w_iincv (z := 48) rfl rfl (by decide) rfl ?_
                refine w_goto rfl ?_
                refine w_iload rfl rfl ?_
                refine w_pushI rfl ?_
                refine w_icmp_ge rfl (fun h => absurd h (by decide)) (fun _ => ?_)
                refine w_aload rfl rfl ?_
                refine w_getR (r := 41) rfl rfl (hR _ fmR_40_4) ?_
                refine w_iload rfl rfl ?_
                refine w_pushL rfl ?_
                refine w_lastv (j := 48) rfl rfl (by decide) (by unfold vp_in; decide) rfl ?_
                refine w_iincv (z := 49) rfl rfl (by decide) rfl ?_
                refine w_goto rfl ?_
                refine w_iload rfl rfl ?_
                refine w_pushI rfl ?_
                refine w_icmp_ge rfl (fun h => absurd h (by decide)) (fun _ => ?_)
                refine w_aload rfl rfl ?_
                refine w_getR (r := 41) rfl rfl (hR _ fmR_40_4) ?_
                refine w_iload rfl rfl ?_
                refine w_pushL rfl ?_
                refine w_lastv (j := 49) rfl rfl (by decide) (by unfold vp_in; decide) rfl ?_
                refine w_iincv (z := 50) rfl rfl (by decide) rfl ?_
                refine w_goto rfl ?_
                refine w_iload rfl rfl ?_
                refine w_pushI rfl ?_
                refine w_icmp_ge rfl (fun h => absurd h (by decide)) (fun _ => ?_)
                refine w_aload rfl rfl ?_
                refine w_getR (r := 41) rfl rfl (hR _ fmR_40_4) ?_
                refine w_iload rfl rfl ?_
                refine w_pushL rfl ?_
                refine w_lastv (j := 50) rfl rfl (by decide) (by unfold vp_in; decide) rfl ?_
                refine w_iincv (z := 51) rfl rfl (by decide) rfl ?_
                refine w_goto rfl ?_
                refine w_iload rfl rfl ?_
                refine w_pushI rfl ?_
                refine w_icmp_ge rfl (fun h => absurd h (by decide)) (fun _ => ?_)
                refine w_aload rfl rfl ?_
                refine w_getR (r := 41) rfl rfl (hR _ fmR_40_4) ?_
                refine w_iload rfl rfl ?_
                refine w_pushL rfl ?_
                refine w_lastv (j := 51) rfl rfl (by decide) (by unfold vp_in; decide) rfl ?_
                refine w_iincv (z := 52) rfl rfl (by decide) rfl ?_
                refine w_goto rfl ?_
                refine w_iload rfl rfl ?_
                refine w_pushI rfl ?_
                refine w_icmp_ge rfl (fun h => absurd h (by decide)) (fun _ => ?_)
                refine w_aload rfl rfl ?_
                refine w_getR (r := 41) rfl rfl (hR _ fmR_40_4) ?_
                refine w_iload rfl rfl ?_
                refine w_pushL rfl ?_
                refine w_lastv (j := 52) rfl rfl (by decide) (by unfold vp_in; decide) rfl ?_
                refine w_iincv (z := 53) rfl rfl (by decide) rfl ?_
                refine w_goto rfl ?_
                refine w_iload rfl rfl ?_
                refine w_pushI rfl ?_
                refine w_icmp_ge rfl (fun h => absurd h (by decide)) (fun _ => ?_)
                refine w_aload rfl rfl ?_
                refine w_getR (r := 41) rfl rfl (hR _ fmR_40_4) ?_
                refine w_iload rfl rfl ?_
                refine w_pushL rfl ?_
                refine w_lastv (j := 53) rfl rfl (by decide) (by unfold vp_in; decide) rfl ?_
                refine w_iincv (z := 54) rfl rfl (by decide) rfl ?_
                refine w_goto rfl ?_
                refine w_iload rfl rfl ?_
                refine w_pushI rfl ?_
                refine w_icmp_ge rfl (fun h => absurd h (by decide)) (fun _ => ?_)
                refine w_aload rfl rfl ?_
                refine w_getR (r := 41) rfl rfl (hR _ fmR_40_4) ?_
                refine w_iload rfl rfl ?_
                refine w_pushL rfl ?_
                refine w_lastv (j := 54) rfl rfl (by decide) (by unfold vp_in; decide) rfl ?_
                refine w_iincv (z := 55) rfl rfl (by decide) rfl ?_
                refine w_goto rfl ?_
                refine w_iload rfl rfl ?_
                refine w_pushI rfl ?_
                refine w_icmp_ge rfl (fun h => absurd h (by decide)) (fun _ => ?_)
                refine w_aload rfl rfl ?_
                refine w_getR (r := 41) rfl rfl (hR _ fmR_40_4) ?_
                refine w_iload rfl rfl ?_
                refine w_pushL rfl ?_
                refine w_lastv (j := 55) rfl rfl (by decide) (by unfold vp_in; decide) rfl ?_
                refine w_iincv (z := 56) rfl rfl (by decide) rfl ?_
                refine w_goto rfl ?_
                refine w_iload rfl rfl ?_
                refine w_pushI rfl ?_
                refine w_icmp_ge rfl (fun h => absurd h (by decide)) (fun _ => ?_)
                refine w_aload rfl rfl ?_
                refine w_getR (r := 41) rfl rfl (hR _ fmR_40_4) ?_
                refine w_iload rfl rfl ?_
                refine w_pushL rfl ?_
                refine w_lastv (j := 56) rfl rfl (by decide) (by unfold vp_in; decide) rfl ?_
                refine w_iincv (z := 57) rfl rfl (by decide) rfl ?_
                refine w_goto rfl ?_
                refine w_iload rfl rfl ?_
                refine w_pushI rfl ?_
                refine w_icmp_ge rfl (fun h => absurd h (by decide)) (fun _ => ?_)
                refine w_aload rfl rfl ?_
                refine w_getR (r := 41) rfl rfl (hR _ fmR_40_4) ?_
                refine w_iload rfl rfl ?_
                refine w_pushL rfl ?_
                refine w_lastv (j := 57) rfl rfl (by decide) (by unfold vp_in; decide) rfl ?_
                refine w_iincv (z := 58) rfl rfl (by decide) rfl ?_
                refine w_goto rfl ?_
                refine w_iload rfl rfl ?_
                refine w_pushI rfl ?_
                refine w_icmp_ge rfl (fun h => absurd h (by decide)) (fun _ => ?_)
                refine w_aload rfl rfl ?_
                refine w_getR (r := 41) rfl rfl (hR _ fmR_40_4) ?_
                refine w_iload rfl rfl ?_
                refine w_pushL rfl ?_
                refine w_lastv (j := 58) rfl rfl (by decide) (by unfold vp_in; decide) rfl ?_
                refine w_iincv (z := 59) rfl rfl (by decide) rfl ?_
                refine w_goto rfl ?_
                refine w_iload rfl rfl ?_
                refine w_pushI rfl ?_
                refine w_icmp_ge rfl (fun h => absurd h (by decide)) (fun _ => ?_)
                refine w_aload rfl rfl ?_
                refine w_getR (r := 41) rfl rfl (hR _ fmR_40_4) ?_
                refine w_iload rfl rfl ?_
                refine w_pushL rfl ?_
                refine w_lastv (j := 59) rfl rfl (by decide) (by unfold vp_in; decide) rfl ?_
                refine w_iincv (z := 60) rfl rfl (by decide) rfl ?_
                refine w_goto rfl ?_
                refine w_iload rfl rfl ?_
                refine w_pushI rfl ?_
                refine w_icmp_ge rfl (fun _ => ?_) (fun h => absurd (by decide) h)
                refine w_vret rfl rfl ?_
                show gW _ _ _ _ _ _ _ _ _ _
                refine w_pushI rfl ?_
                refine w_iret rfl (Or.inl rfl) ?_
                exact ⟨congrArg (fun v => some (Value.int v)) (show (1 : Int32) = f1_row (1) b c by have e0 : (1 : Int32).toInt = 1 := rfl; exact ite_eq_of (fun _ => ite_eq_of (fun hc => absurd hc (by omega)) (fun _ => rfl)) (fun hc => absurd (by omega) hc)), rfl, fun x hx => (gU_o (by omega)).trans ((gU_o (by omega)).trans (gU_o (by omega))), fun x hx => (gU_o (by omega)).trans ((gU_o (by omega)).trans ((gU_o (by omega)).trans ((gU_o (by omega)).trans ((gU_o (by omega)).trans ((gU_o (by omega)).trans ((gU_o (by omega)).trans ((gU_o (by omega)).trans ((gU_o (by omega)).trans ((gU_o (by omega)).trans ((gU_o (by omega)).trans ((gU_o (by omega)).trans ((gU_o (by omega)).trans ((gU_o (by omega)).trans ((gU_o (by omega)).trans ((gU_o (by omega)).trans ((gU_o (by omega)).trans ((gU_o (by omega)).trans ((gU_o (by omega)).trans ((gU_o (by omega)).trans ((gU_o (by omega)).trans ((gU_o (by omega)).trans ((gU_o (by omega)).trans ((gU_o (by omega)).trans ((gU_o (by omega)).trans ((gU_o (by omega)).trans ((gU_o (by omega)).trans ((gU_o (by omega)).trans ((gU_o (by omega)).trans ((gU_o (by omega)).trans ((gU_o (by omega)).trans ((gU_o (by omega)).trans ((gU_o (by omega)).trans ((gU_o (by omega)).trans ((gU_o (by omega)).trans ((gU_o (by omega)).trans ((gU_o (by omega)).trans ((gU_o (by omega)).trans ((gU_o (by omega)).trans ((gU_o (by omega)).trans ((gU_o (by omega)).trans ((gU_o (by omega)).trans ((gU_o (by omega)).trans ((gU_o (by omega)).trans ((gU_o (by omega)).trans ((gU_o (by omega)).trans ((gU_o (by omega)).trans ((gU_o (by omega)).trans ((gU_o (by omega)).trans ((gU_o (by omega)).trans ((gU_o (by omega)).trans ((gU_o (by omega)).trans ((gU_o (by omega)).trans ((gU_o (by omega)).trans ((gU_o (by omega)).trans ((gU_o (by omega)).trans ((gU_o (by omega)).trans ((gU_o (by omega)).trans ((gU_o (by omega)).trans (gU_o (by omega)))))))))))))))))))))))))))))))))))))))))))))))))))))))))))), fun x hx => rfl⟩
              · obtain rfl : a = 2 := i_is hs7 (by decide)
                refine w_aaldv (j := 2) (r := 42) rfl rfl (by decide) (by unfold vp_in; decide) (hR _ fmR_37_2) ?_
                refine w_iload rfl rfl ?_
                refine w_iload rfl rfl ?_
                refine w_callVi (As := [_, _]) (le := [some _, some _, some _, none]) rfl rfl rfl (Nat.le_of_ble_eq_true rfl) (Nat.le_of_ble_eq_true rfl) rfl ?_
                refine w_aload rfl rfl ?_
                refine w_pushI rfl ?_
                refine w_putI rfl rfl ?_
                refine w_aload rfl rfl ?_
                refine w_iload rfl rfl ?_
                refine w_putI rfl rfl ?_
                refine w_aload rfl rfl ?_
                refine w_iload rfl rfl ?_
                refine w_putI rfl rfl ?_
                refine w_pushI rfl ?_
                refine w_istore rfl rfl ?_
                refine w_iload rfl rfl ?_
                refine w_pushI rfl ?_
                refine w_icmp_ge rfl (fun h => absurd h (by decide)) (fun _ => ?_)
                refine w_aload rfl rfl ?_
                refine w_getR (r := 43) rfl rfl (hR _ fmR_42_4) ?_
                refine w_iload rfl rfl ?_
                refine w_pushL rfl ?_
                refine w_lastv (j := 0) rfl rfl (by decide) (by unfold vp_in; decide) rfl ?_
                refine w_iincv (z := 1) rfl rfl (by decide) rfl ?_
                refine w_goto rfl ?_
                refine w_iload rfl rfl ?_
                refine w_pushI rfl ?_
                refine w_icmp_ge rfl (fun h => absurd h (by decide)) (fun _ => ?_)
                refine w_aload rfl rfl ?_
                refine w_getR (r := 43) rfl rfl (hR _ fmR_42_4) ?_
                refine w_iload rfl rfl ?_
                refine w_pushL rfl ?_
                refine w_lastv (j := 1) rfl rfl (by decide) (by unfold vp_in; decide) rfl ?_
                refine w_iincv (z := 2) rfl rfl (by decide) rfl ?_
                refine w_goto rfl ?_
                refine w_iload rfl rfl ?_
                refine w_pushI rfl ?_
                refine w_icmp_ge rfl (fun h => absurd h (by decide)) (fun _ => ?_)
                refine w_aload rfl rfl ?_
                refine w_getR (r := 43) rfl rfl (hR _ fmR_42_4) ?_
                refine w_iload rfl rfl ?_
                refine w_pushL rfl ?_
                refine w_lastv (j := 2) rfl rfl (by decide) (by unfold vp_in; decide) rfl ?_
                refine w_iincv (z := 3) rfl rfl (by decide) rfl ?_
                refine w_goto rfl ?_
                refine w_iload rfl rfl ?_
                refine w_pushI rfl ?_
                refine w_icmp_ge rfl (fun h => absurd h (by decide)) (fun _ => ?_)
                refine w_aload rfl rfl ?_
                refine w_getR (r := 43) rfl rfl (hR _ fmR_42_4) ?_
                refine w_iload rfl rfl ?_
                refine w_pushL rfl ?_
                refine w_lastv (j := 3) rfl rfl (by decide) (by unfold vp_in; decide) rfl ?_
                refine w_iincv (z := 4) rfl rfl (by decide) rfl ?_
                refine w_goto rfl ?_
                refine w_iload rfl rfl ?_
                refine w_pushI rfl ?_
                refine w_icmp_ge rfl (fun h => absurd h (by decide)) (fun _ => ?_)
                refine w_aload rfl rfl ?_
                refine w_getR (r := 43) rfl rfl (hR _ fmR_42_4) ?_
                refine w_iload rfl rfl ?_
                refine w_pushL rfl ?_
                refine w_lastv (j := 4) rfl rfl (by decide) (by unfold vp_in; decide) rfl ?_
                refine w_iincv (z := 5) rfl rfl (by decide) rfl ?_
                refine w_goto rfl ?_
                refine w_iload rfl rfl ?_
                refine w_pushI rfl ?_
                refine w_icmp_ge rfl (fun h => absurd h (by decide)) (fun _ => ?_)
                refine w_aload rfl rfl ?_
                refine w_getR (r := 43) rfl rfl (hR _ fmR_42_4) ?_
                refine w_iload rfl rfl ?_
                refine w_pushL rfl ?_
                refine w_lastv (j := 5) rfl rfl (by decide) (by unfold vp_in; decide) rfl ?_
                refine w_iincv (z := 6) rfl rfl (by decide) rfl ?_
                refine w_goto rfl ?_
                refine w_iload rfl rfl ?_
                refine w_pushI rfl ?_
                refine w_icmp_ge rfl (fun h => absurd h (by decide)) (fun _ => ?_)
                refine w_aload rfl rfl ?_
                refine w_getR (r := 43) rfl rfl (hR _ fmR_42_4) ?_
                refine w_iload rfl rfl ?_
                refine w_pushL rfl ?_
                refine w_lastv (j := 6) rfl rfl (by decide) (by unfold vp_in; decide) rfl ?_
                refine w_iincv (z := 7) rfl rfl (by decide) rfl ?_
                refine w_goto rfl ?_
                refine w_iload rfl rfl ?_
                refine w_pushI rfl ?_
                refine w_icmp_ge rfl (fun h => absurd h (by decide)) (fun _ => ?_)
                refine w_aload rfl rfl ?_
                refine w_getR (r := 43) rfl rfl (hR _ fmR_42_4) ?_
                refine w_iload rfl rfl ?_
                refine w_pushL rfl ?_
                refine w_lastv (j := 7) rfl rfl (by decide) (by unfold vp_in; decide) rfl ?_
                refine w_iincv (z := 8) rfl rfl (by decide) rfl ?_
                refine w_goto rfl ?_
                refine w_iload rfl rfl ?_
                refine w_pushI rfl ?_
                refine w_icmp_ge rfl (fun h => absurd h (by decide)) (fun _ => ?_)
                refine w_aload rfl rfl ?_
                refine w_getR (r := 43) rfl rfl (hR _ fmR_42_4) ?_
                refine w_iload rfl rfl ?_
                refine w_pushL rfl ?_
                refine w_lastv (j := 8) rfl rfl (by decide) (by unfold vp_in; decide) rfl ?_
                refine w_iincv (z := 9) rfl rfl (by decide) rfl ?_
                refine w_goto rfl ?_
                refine w_iload rfl rfl ?_
                refine w_pushI rfl ?_
                refine w_icmp_ge rfl (fun h => absurd h (by decide)) (fun _ => ?_)
                refine w_aload rfl rfl ?_
                refine w_getR (r := 43) rfl rfl (hR _ fmR_42_4) ?_
                refine w_iload rfl rfl ?_
                refine w_pushL rfl ?_
                refine w_lastv (j := 9) rfl rfl (by decide) (by unfold vp_in; decide) rfl ?_
                refine w_iincv (z := 10) rfl rfl (by decide) rfl ?_
                refine w_goto rfl ?_
                refine w_iload rfl rfl ?_
                refine w_pushI rfl ?_
                refine w_icmp_ge rfl (fun h => absurd h (by decide)) (fun _ => ?_)
                refine w_aload rfl rfl ?_
                refine w_getR (r := 43) rfl rfl (hR _ fmR_42_4) ?_
                refine w_iload rfl rfl ?_
                refine w_pushL rfl ?_
                refine w_lastv (j := 10) rfl rfl (by decide) (by unfold vp_in; decide) rfl ?_
                refine w_iincv (z := 11) rfl rfl (by decide) rfl ?_
                refine w_goto rfl ?_
                refine w_iload rfl rfl ?_
                refine w_pushI rfl ?_
                refine w_icmp_ge rfl (fun h => absurd h (by decide)) (fun _ => ?_)
                refine w_aload rfl rfl ?_
                refine w_getR (r := 43) rfl rfl (hR _ fmR_42_4) ?_
                refine w_iload rfl rfl ?_
                refine w_pushL rfl ?_
                refine w_lastv (j := 11) rfl rfl (by decide) (by unfold vp_in; decide) rfl ?_
                refine w_iincv (z := 12) rfl rfl (by decide) rfl ?_
                refine w_goto rfl ?_
                refine w_iload rfl rfl ?_
                refine w_pushI rfl ?_
                refine w_icmp_ge rfl (fun h => absurd h (by decide)) (fun _ => ?_)
                refine w_aload rfl rfl ?_
                refine w_getR (r := 43) rfl rfl (hR _ fmR_42_4) ?_
                refine w_iload rfl rfl ?_
                refine w_pushL rfl ?_
                refine w_lastv (j := 12) rfl rfl (by decide) (by unfold vp_in; decide) rfl ?_
                refine w_iincv (z := 13) rfl rfl (by decide) rfl ?_
                refine w_goto rfl ?_
                refine w_iload rfl rfl ?_
                refine w_pushI rfl ?_
                refine w_icmp_ge rfl (fun h => absurd h (by decide)) (fun _ => ?_)
                refine w_aload rfl rfl ?_
                refine w_getR (r := 43) rfl rfl (hR _ fmR_42_4) ?_
                refine w_iload rfl rfl ?_
                refine w_pushL rfl ?_
                refine w_lastv (j := 13) rfl rfl (by decide) (by unfold vp_in; decide) rfl ?_
                refine w_iincv (z := 14) rfl rfl (by decide) rfl ?_
                refine w_goto rfl ?_
                refine w_iload rfl rfl ?_
                refine w_pushI rfl ?_
                refine w_icmp_ge rfl (fun h => absurd h (by decide)) (fun _ => ?_)
                refine w_aload rfl rfl ?_
                refine w_getR (r := 43) rfl rfl (hR _ fmR_42_4) ?_
                refine w_iload rfl rfl ?_
                refine w_pushL rfl ?_
                refine w_lastv (j := 14) rfl rfl (by decide) (by unfold vp_in; decide) rfl ?_
                refine w_iincv (z := 15) rfl rfl (by decide) rfl ?_
                refine w_goto rfl ?_
                refine w_iload rfl rfl ?_
                refine w_pushI rfl ?_
                refine w_icmp_ge rfl (fun h => absurd h (by decide)) (fun _ => ?_)
                refine w_aload rfl rfl ?_
                refine w_getR (r := 43) rfl rfl (hR _ fmR_42_4) ?_
                refine w_iload rfl rfl ?_
                refine w_pushL rfl ?_
                refine w_lastv (j := 15) rfl rfl (by decide) (by unfold vp_in; decide) rfl ?_
                refine w_iincv (z := 16) rfl rfl (by decide) rfl ?_
                refine w_goto rfl ?_
                refine w_iload rfl rfl ?_
                refine w_pushI rfl ?_
                refine w_icmp_ge rfl (fun h => absurd h (by decide)) (fun _ => ?_)
                refine w_aload rfl rfl ?_
                refine w_getR (r := 43) rfl rfl (hR _ fmR_42_4) ?_
                refine w_iload rfl rfl ?_
                refine w_pushL rfl ?_
                refine w_lastv (j := 16) rfl rfl (by decide) (by unfold vp_in; decide) rfl ?_
                refine w_iincv (z := 17) rfl rfl (by decide) rfl ?_
                refine w_goto rfl ?_
                refine w_iload rfl rfl ?_
                refine w_pushI rfl ?_
                refine w_icmp_ge rfl (fun h => absurd h (by decide)) (fun _ => ?_)
                refine w_aload rfl rfl ?_
                refine w_getR (r := 43) rfl rfl (hR _ fmR_42_4) ?_
                refine w_iload rfl rfl ?_
                refine w_pushL rfl ?_
                refine w_lastv (j := 17) rfl rfl (by decide) (by unfold vp_in; decide) rfl ?_
                refine w_iincv (z := 18) rfl rfl (by decide) rfl ?_
                refine w_goto rfl ?_
                refine w_iload rfl rfl ?_
                refine w_pushI rfl ?_
                refine w_icmp_ge rfl (fun h => absurd h (by decide)) (fun _ => ?_)
                refine w_aload rfl rfl ?_
                refine w_getR (r := 43) rfl rfl (hR _ fmR_42_4) ?_
                refine w_iload rfl rfl ?_
                refine w_pushL rfl ?_
                refine w_lastv (j := 18) rfl rfl (by decide) (by unfold vp_in; decide) rfl ?_
                refine w_iincv (z := 19) rfl rfl (by decide) rfl ?_
                refine w_goto rfl ?_
                refine w_iload rfl rfl ?_
                refine w_pushI rfl ?_
                refine w_icmp_ge rfl (fun h => absurd h (by decide)) (fun _ => ?_)
                refine w_aload rfl rfl ?_
                refine w_getR (r := 43) rfl rfl (hR _ fmR_42_4) ?_
                refine w_iload rfl rfl ?_
                refine w_pushL rfl ?_
                refine w_lastv (j := 19) rfl rfl (by decide) (by unfold vp_in; decide) rfl ?_
                refine w_iincv (z := 20) rfl rfl (by decide) rfl ?_
                refine w_goto rfl ?_
                refine w_iload rfl rfl ?_
                refine w_pushI rfl ?_
                refine w_icmp_ge rfl (fun h => absurd h (by decide)) (fun _ => ?_)
                refine w_aload rfl rfl ?_
                refine w_getR (r := 43) rfl rfl (hR _ fmR_42_4) ?_
                refine w_iload rfl rfl ?_
                refine w_pushL rfl ?_
                refine w_lastv (j := 20) rfl rfl (by decide) (by unfold vp_in; decide) rfl ?_
                refine w_iincv (z := 21) rfl rfl (by decide) rfl ?_
                refine w_goto rfl ?_
                refine w_iload rfl rfl ?_
                refine w_pushI rfl ?_
                refine w_icmp_ge rfl (fun h => absurd h (by decide)) (fun _ => ?_)
                refine w_aload rfl rfl ?_
                refine w_getR (r := 43) rfl rfl (hR _ fmR_42_4) ?_
                refine w_iload rfl rfl ?_
                refine w_pushL rfl ?_
                refine w_lastv (j := 21) rfl rfl (by decide) (by unfold vp_in; decide) rfl ?_
                refine w_iincv (z := 22) rfl rfl (by decide) rfl ?_
                refine w_goto rfl ?_
                refine w_iload rfl rfl ?_
                refine w_pushI rfl ?_
                refine w_icmp_ge rfl (fun h => absurd h (by decide)) (fun _ => ?_)
                refine w_aload rfl rfl ?_
                refine w_getR (r := 43) rfl rfl (hR _ fmR_42_4) ?_
                refine w_iload rfl rfl ?_
                refine w_pushL rfl ?_
                refine w_lastv (j := 22) rfl rfl (by decide) (by unfold vp_in; decide) rfl ?_
                refine w_iincv (z := 23) rfl rfl (by decide) rfl ?_
                refine w_goto rfl ?_
                refine w_iload rfl rfl ?_
                refine w_pushI rfl ?_
                refine w_icmp_ge rfl (fun h => absurd h (by decide)) (fun _ => ?_)
                refine w_aload rfl rfl ?_
                refine w_getR (r := 43) rfl rfl (hR _ fmR_42_4) ?_
                refine w_iload rfl rfl ?_
                refine w_pushL rfl ?_
                refine w_lastv (j := 23) rfl rfl (by decide) (by unfold vp_in; decide) rfl ?_
                refine w_iincv (z := 24) rfl rfl (by decide) rfl ?_
                refine w_goto rfl ?_
                refine w_iload rfl rfl ?_
                refine w_pushI rfl ?_
                refine w_icmp_ge rfl (fun h => absurd h (by decide)) (fun _ => ?_)
                refine w_aload rfl rfl ?_
                refine w_getR (r := 43) rfl rfl (hR _ fmR_42_4) ?_
                refine w_iload rfl rfl ?_
                refine w_pushL rfl ?_
                refine w_lastv (j := 24) rfl rfl (by decide) (by unfold vp_in; decide) rfl ?_
                refine w_iincv (z := 25) rfl rfl (by decide) rfl ?_
                refine w_goto rfl ?_
                refine w_iload rfl rfl ?_
                refine w_pushI rfl ?_
                refine w_icmp_ge rfl (fun h => absurd h (by decide)) (fun _ => ?_)
                refine w_aload rfl rfl ?_
                refine w_getR (r := 43) rfl rfl (hR _ fmR_42_4) ?_
                refine w_iload rfl rfl ?_
                refine w_pushL rfl ?_
                refine w_lastv (j := 25) rfl rfl (by decide) (by unfold vp_in; decide) rfl ?_
                refine w_iincv (z := 26) rfl rfl (by decide) rfl ?_
                refine w_goto rfl ?_
                refine w_iload rfl rfl ?_
                refine w_pushI rfl ?_
                refine w_icmp_ge rfl (fun h => absurd h (by decide)) (fun _ => ?_)
                refine w_aload rfl rfl ?_
                refine w_getR (r := 43) rfl rfl (hR _ fmR_42_4) ?_
                refine w_iload rfl rfl ?_
                refine w_pushL rfl ?_
                refine w_lastv (j := 26) rfl rfl (by decide) (by unfold vp_in; decide) rfl ?_
                refine w_iincv (z := 27) rfl rfl (by decide) rfl ?_
                refine w_goto rfl ?_
                refine w_iload rfl rfl ?_
                refine w_pushI rfl ?_
                refine w_icmp_ge rfl (fun h => absurd h (by decide)) (fun _ => ?_)
                refine w_aload rfl rfl ?_
                refine w_getR (r := 43) rfl rfl (hR _ fmR_42_4) ?_
                refine w_iload rfl rfl ?_
                refine w_pushL rfl ?_
                refine w_lastv (j := 27) rfl rfl (by decide) (by unfold vp_in; decide) rfl ?_
                refine w_iincv (z := 28) rfl rfl (by decide) rfl ?_
                refine w_goto rfl ?_
                refine w_iload rfl rfl ?_
                refine w_pushI rfl ?_
                refine w_icmp_ge rfl (fun h => absurd h (by decide)) (fun _ => ?_)
                refine w_aload rfl rfl ?_
                refine w_getR (r := 43) rfl rfl (hR _ fmR_42_4) ?_
                refine w_iload rfl rfl ?_
                refine w_pushL rfl ?_
                refine w_lastv (j := 28) rfl rfl (by decide) (by unfold vp_in; decide) rfl ?_
                refine w_iincv (z := 29) rfl rfl (by decide) rfl ?_
                refine w_goto rfl ?_
                refine w_iload rfl rfl ?_
                refine w_pushI rfl ?_
                refine w_icmp_ge rfl (fun h => absurd h (by decide)) (fun _ => ?_)
                refine w_aload rfl rfl ?_
                refine w_getR (r := 43) rfl rfl (hR _ fmR_42_4) ?_
                refine w_iload rfl rfl ?_
                refine w_pushL rfl ?_
                refine w_lastv (j := 29) rfl rfl (by decide) (by unfold vp_in; decide) rfl ?_
                refine w_iincv (z := 30) rfl rfl (by decide) rfl ?_
                refine w_goto rfl ?_
                refine w_iload rfl rfl ?_
                refine w_pushI rfl ?_
                refine w_icmp_ge rfl (fun h => absurd h (by decide)) (fun _ => ?_)
                refine w_aload rfl rfl ?_
                refine w_getR (r := 43) rfl rfl (hR _ fmR_42_4) ?_
                refine w_iload rfl rfl ?_
                refine w_pushL rfl ?_
                refine w_lastv (j := 30) rfl rfl (by decide) (by unfold vp_in; decide) rfl ?_
                refine w_iincv (z := 31) rfl rfl (by decide) rfl ?_
                refine w_goto rfl ?_
                refine w_iload rfl rfl ?_
                refine w_pushI rfl ?_
                refine w_icmp_ge rfl (fun h => absurd h (by decide)) (fun _ => ?_)
                refine w_aload rfl rfl ?_
                refine w_getR (r := 43) rfl rfl (hR _ fmR_42_4) ?_
                refine w_iload rfl rfl ?_
                refine w_pushL rfl ?_
                refine w_lastv (j := 31) rfl rfl (by decide) (by unfold vp_in; decide) rfl ?_
                refine w_iincv (z := 32) rfl rfl (by decide) rfl ?_
                refine w_goto rfl ?_
                refine w_iload rfl rfl ?_
                refine w_pushI rfl ?_
                refine w_icmp_ge rfl (fun h => absurd h (by decide)) (fun _ => ?_)
                refine w_aload rfl rfl ?_
                refine w_getR (r := 43) rfl rfl (hR _ fmR_42_4) ?_
                refine w_iload rfl rfl ?_
                refine w_pushL rfl ?_
                refine w_lastv (j := 32) rfl rfl (by decide) (by unfold vp_in; decide) rfl ?_
                refine w_iincv (z := 33) rfl rfl (by decide) rfl ?_
                refine w_goto rfl ?_
                refine w_iload rfl rfl ?_
                refine w_pushI rfl ?_
                refine w_icmp_ge rfl (fun h => absurd h (by decide)) (fun _ => ?_)
                refine w_aload rfl rfl ?_
                refine w_getR (r := 43) rfl rfl (hR _ fmR_42_4) ?_
                refine w_iload rfl rfl ?_
                refine w_pushL rfl ?_
                refine w_lastv (j := 33) rfl rfl (by decide) (by unfold vp_in; decide) rfl ?_
                refine w_iincv (z := 34) rfl rfl (by decide) rfl ?_
                refine w_goto rfl ?_
                refine w_iload rfl rfl ?_
                refine w_pushI rfl ?_
                refine w_icmp_ge rfl (fun h => absurd h (by decide)) (fun _ => ?_)
                refine w_aload rfl rfl ?_
                refine w_getR (r := 43) rfl rfl (hR _ fmR_42_4) ?_
                refine w_iload rfl rfl ?_
                refine w_pushL rfl ?_
                refine w_lastv (j := 34) rfl rfl (by decide) (by unfold vp_in; decide) rfl ?_
                refine w_iincv (z := 35) rfl rfl (by decide) rfl ?_
                refine w_goto rfl ?_
                refine w_iload rfl rfl ?_
                refine w_pushI rfl ?_
                refine w_icmp_ge rfl (fun h => absurd h (by decide)) (fun _ => ?_)
                refine w_aload rfl rfl ?_
                refine w_getR (r := 43) rfl rfl (hR _ fmR_42_4) ?_
                refine w_iload rfl rfl ?_
                refine w_pushL rfl ?_
                refine w_lastv (j := 35) rfl rfl (by decide) (by unfold vp_in; decide) rfl ?_
                refine w_iincv (z := 36) rfl rfl (by decide) rfl ?_
                refine w_goto rfl ?_
                refine w_iload rfl rfl ?_
                refine w_pushI rfl ?_
                refine w_icmp_ge rfl (fun h => absurd h (by decide)) (fun _ => ?_)
                refine w_aload rfl rfl ?_
                refine w_getR (r := 43) rfl rfl (hR _ fmR_42_4) ?_
                refine w_iload rfl rfl ?_
                refine w_pushL rfl ?_
                refine w_lastv (j := 36) rfl rfl (by decide) (by unfold vp_in; decide) rfl ?_
                refine w_iincv (z := 37) rfl rfl (by decide) rfl ?_
                refine w_goto rfl ?_
                refine w_iload rfl rfl ?_
                refine w_pushI rfl ?_
                refine w_icmp_ge rfl (fun h => absurd h (by decide)) (fun _ => ?_)
                refine w_aload rfl rfl ?_
                refine w_getR (r := 43) rfl rfl (hR _ fmR_42_4) ?_
                refine w_iload rfl rfl ?_
                refine w_pushL rfl ?_
                refine w_lastv (j := 37) rfl rfl (by decide) (by unfold vp_in; decide) rfl ?_
                refine w_iincv (z := 38) rfl rfl (by decide) rfl ?_
                refine w_goto rfl ?_
                refine w_iload rfl rfl ?_
                refine w_pushI rfl ?_
                refine w_icmp_ge rfl (fun h => absurd h (by decide)) (fun _ => ?_)
                refine w_aload rfl rfl ?_
                refine w_getR (r := 43) rfl rfl (hR _ fmR_42_4) ?_
                refine w_iload rfl rfl ?_
                refine w_pushL rfl ?_
                refine w_lastv (j := 38) rfl rfl (by decide) (by unfold vp_in; decide) rfl ?_
                refine w_iincv (z := 39) rfl rfl (by decide) rfl ?_
                refine w_goto rfl ?_
                refine w_iload rfl rfl ?_
                refine w_pushI rfl ?_
                refine w_icmp_ge rfl (fun h => absurd h (by decide)) (fun _ => ?_)
                refine w_aload rfl rfl ?_
                refine w_getR (r := 43) rfl rfl (hR _ fmR_42_4) ?_
                refine w_iload rfl rfl ?_
                refine w_pushL rfl ?_
                refine w_lastv (j := 39) rfl rfl (by decide) (by unfold vp_in; decide) rfl ?_
                refine w_iincv (z := 40) rfl rfl (by decide) rfl ?_
                refine w_goto rfl ?_
                refine w_iload rfl rfl ?_
                refine w_pushI rfl ?_
                refine w_icmp_ge rfl (fun h => absurd h (by decide)) (fun _ => ?_)
                refine w_aload rfl rfl ?_
                refine w_getR (r := 43) rfl rfl (hR _ fmR_42_4) ?_
                refine w_iload rfl rfl ?_
                refine w_pushL rfl ?_
                refine w_lastv (j := 40) rfl rfl (by decide) (by unfold vp_in; decide) rfl ?_
                refine w_iincv (z := 41) rfl rfl (by decide) rfl ?_
                refine w_goto rfl ?_
                refine w_iload rfl rfl ?_
                refine w_pushI rfl ?_
                refine w_icmp_ge rfl (fun h => absurd h (by decide)) (fun _ => ?_)
                refine w_aload rfl rfl ?_
                refine w_getR (r := 43) rfl rfl (hR _ fmR_42_4) ?_
                refine w_iload rfl rfl ?_
                refine w_pushL rfl ?_
                refine w_lastv (j := 41) rfl rfl (by decide) (by unfold vp_in; decide) rfl ?_
                refine w_iincv (z := 42) rfl rfl (by decide) rfl ?_
                refine w_goto rfl ?_
                refine w_iload rfl rfl ?_
                refine w_pushI rfl ?_
                refine w_icmp_ge rfl (fun h => absurd h (by decide)) (fun _ => ?_)
                refine w_aload rfl rfl ?_
                refine w_getR (r := 43) rfl rfl (hR _ fmR_42_4) ?_
                refine w_iload rfl rfl ?_
                refine w_pushL rfl ?_
                refine w_lastv (j := 42) rfl rfl (by decide) (by unfold vp_in; decide) rfl ?_
                refine w_iincv (z := 43) rfl rfl (by decide) rfl ?_
                refine w_goto rfl ?_
                refine w_iload rfl rfl ?_
                refine w_pushI rfl ?_
                refine w_icmp_ge rfl (fun h => absurd h (by decide)) (fun _ => ?_)
                refine w_aload rfl rfl ?_
                refine w_getR (r := 43) rfl rfl (hR _ fmR_42_4) ?_
                refine w_iload rfl rfl ?_
                refine w_pushL rfl ?_
                refine w_lastv (j := 43) rfl rfl (by decide) (by unfold vp_in; decide) rfl ?_
                refine w_iincv (z := 44) rfl rfl (by decide) rfl ?_
                refine w_goto rfl ?_
                refine w_iload rfl rfl ?_
                refine w_pushI rfl ?_
                refine w_icmp_ge rfl (fun h => absurd h (by decide)) (fun _ => ?_)
                refine w_aload rfl rfl ?_
                refine w_getR (r := 43) rfl rfl (hR _ fmR_42_4) ?_
                refine w_iload rfl rfl ?_
                refine w_pushL rfl ?_
                refine w_lastv (j := 44) rfl rfl (by decide) (by unfold vp_in; decide) rfl ?_
                refine w_iincv (z := 45) rfl rfl (by decide) rfl ?_
                refine w_goto rfl ?_
                refine w_iload rfl rfl ?_
                refine w_pushI rfl ?_
                refine w_icmp_ge rfl (fun h => absurd h (by decide)) (fun _ => ?_)
                refine w_aload rfl rfl ?_
                refine w_getR (r := 43) rfl rfl (hR _ fmR_42_4) ?_
                refine w_iload rfl rfl ?_
                refine w_pushL rfl ?_
                refine w_lastv (j := 45) rfl rfl (by decide) (by unfold vp_in; decide) rfl ?_
                refine w_iincv (z := 46) rfl rfl (by decide) rfl ?_
                refine w_goto rfl ?_
                refine w_iload rfl rfl ?_
                refine w_pushI rfl ?_
                refine w_icmp_ge rfl (fun h => absurd h (by decide)) (fun _ => ?_)
                refine w_aload rfl rfl ?_
                refine w_getR (r := 43) rfl rfl (hR _ fmR_42_4) ?_
                refine w_iload rfl rfl ?_
                refine w_pushL rfl ?_
                refine w_lastv (j := 46) rfl rfl (by decide) (by unfold vp_in; decide) rfl ?_
                refine w_iincv (z := 47) rfl rfl (by decide) rfl ?_
                refine w_goto rfl ?_
                refine w_iload rfl rfl ?_
                refine w_pushI rfl ?_
                refine w_icmp_ge rfl (fun h => absurd h (by decide)) (fun _ => ?_)
                refine w_aload rfl rfl ?_
                refine w_getR (r := 43) rfl rfl (hR _ fmR_42_4) ?_
                refine w_iload rfl rfl ?_
                refine w_pushL rfl ?_
                refine w_lastv (j := 47) rfl rfl (by decide) (by unfold vp_in; decide) rfl ?_
                refine w_iincv (z := 48) rfl rfl (by decide) rfl ?_
                refine w_goto rfl ?_
                refine w_iload rfl rfl ?_
                refine w_pushI rfl ?_
                refine w_icmp_ge rfl (fun h => absurd h (by decide)) (fun _ => ?_)
                refine w_aload rfl rfl ?_
                refine w_getR (r := 43) rfl rfl (hR _ fmR_42_4) ?_
                refine w_iload rfl rfl ?_
                refine w_pushL rfl ?_
                refine w_lastv (j := 48) rfl rfl (by decide) (by unfold vp_in; decide) rfl ?_
                refine w_iincv (z := 49) rfl rfl (by decide) rfl ?_
                refine w_goto rfl ?_
                refine w_iload rfl rfl ?_
                refine w_pushI rfl ?_
                refine w_icmp_ge rfl (fun h => absurd h (by decide)) (fun _ => ?_)
                refine w_aload rfl rfl ?_
                refine w_getR (r := 43) rfl rfl (hR _ fmR_42_4) ?_
                refine w_iload rfl rfl ?_
                refine w_pushL rfl ?_
                refine w_lastv (j := 49) rfl rfl (by decide) (by unfold vp_in; decide) rfl ?_
                refine w_iincv (z := 50) rfl rfl (by decide) rfl ?_
                refine w_goto rfl ?_
                refine w_iload rfl rfl ?_
                refine w_pushI rfl ?_
                refine w_icmp_ge rfl (fun h => absurd h (by decide)) (fun _ => ?_)
                refine w_aload rfl rfl ?_
                refine w_getR (r := 43) rfl rfl (hR _ fmR_42_4) ?_
                refine w_iload rfl rfl ?_
                refine w_pushL rfl ?_
                refine w_lastv (j := 50) rfl rfl (by decide) (by unfold vp_in; decide) rfl ?_
                refine w_iincv (z := 51) rfl rfl (by decide) rfl ?_
                refine w_goto rfl ?_
                refine w_iload rfl rfl ?_
                refine w_pushI rfl ?_
                refine w_icmp_ge rfl (fun h => absurd h (by decide)) (fun _ => ?_)
                refine w_aload rfl rfl ?_
                refine w_getR (r := 43) rfl rfl (hR _ fmR_42_4) ?_
                refine w_iload rfl rfl ?_
                refine w_pushL rfl ?_
                refine w_lastv (j := 51) rfl rfl (by decide) (by unfold vp_in; decide) rfl ?_
                refine w_iincv (z := 52) rfl rfl (by decide) rfl ?_
                refine w_goto rfl ?_
                refine w_iload rfl rfl ?_
                refine w_pushI rfl ?_
                refine w_icmp_ge rfl (fun h => absurd h (by decide)) (fun _ => ?_)
                refine w_aload rfl rfl ?_
                refine w_getR (r := 43) rfl rfl (hR _ fmR_42_4) ?_
                refine w_iload rfl rfl ?_
                refine w_pushL rfl ?_
                refine w_lastv (j := 52) rfl rfl (by decide) (by unfold vp_in; decide) rfl ?_
                refine w_iincv (z := 53) rfl rfl (by decide) rfl ?_
                refine w_goto rfl ?_
                refine w_iload rfl rfl ?_
                refine w_pushI rfl ?_
                refine w_icmp_ge rfl (fun h => absurd h (by decide)) (fun _ => ?_)
                refine w_aload rfl rfl ?_
                refine w_getR (r := 43) rfl rfl (hR _ fmR_42_4) ?_
                refine w_iload rfl rfl ?_
                refine w_pushL rfl ?_
                refine w_lastv (j := 53) rfl rfl (by decide) (by unfold vp_in; decide) rfl ?_
                refine w_iincv (z := 54) rfl rfl (by decide) rfl ?_
                refine w_goto rfl ?_
                refine w_iload rfl rfl ?_
                refine w_pushI rfl ?_
                refine w_icmp_ge rfl (fun h => absurd h (by decide)) (fun _ => ?_)
                refine w_aload rfl rfl ?_
                refine w_getR (r := 43) rfl rfl (hR _ fmR_42_4) ?_
                refine w_iload rfl rfl ?_
                refine w_pushL rfl ?_
                refine w_lastv (j := 54) rfl rfl (by decide) (by unfold vp_in; decide) rfl ?_
                refine w_iincv (z := 55) rfl rfl (by decide) rfl ?_
                refine w_goto rfl ?_
                refine w_iload rfl rfl ?_
                refine w_pushI rfl ?_
                refine w_icmp_ge rfl (fun h => absurd h (by decide)) (fun _ => ?_)
                refine w_aload rfl rfl ?_
                refine w_getR (r := 43) rfl rfl (hR _ fmR_42_4) ?_
                refine w_iload rfl rfl ?_
                refine w_pushL rfl ?_
                refine w_lastv (j := 55) rfl rfl (by decide) (by unfold vp_in; decide) rfl ?_
                refine w_iincv (z := 56) rfl rfl (by decide) rfl ?_
                refine w_goto rfl ?_
                refine w_iload rfl rfl ?_
                refine w_pushI rfl ?_
                refine w_icmp_ge rfl (fun h => absurd h (by decide)) (fun _ => ?_)
                refine w_aload rfl rfl ?_
                refine w_getR (r := 43) rfl rfl (hR _ fmR_42_4) ?_
                refine w_iload rfl rfl ?_
                refine w_pushL rfl ?_
                refine w_lastv (j := 56) rfl rfl (by decide) (by unfold vp_in; decide) rfl ?_
                refine w_iincv (z := 57) rfl rfl (by decide) rfl ?_
                refine w_goto rfl ?_
                refine w_iload rfl rfl ?_
                refine w_pushI rfl ?_
                refine w_icmp_ge rfl (fun h => absurd h (by decide)) (fun _ => ?_)
                refine w_aload rfl rfl ?_
                refine w_getR (r := 43) rfl rfl (hR _ fmR_42_4) ?_
                refine w_iload rfl rfl ?_
                refine w_pushL rfl ?_
                refine w_lastv (j := 57) rfl rfl (by decide) (by unfold vp_in; decide) rfl ?_
                refine w_iincv (z := 58) rfl rfl (by decide) rfl ?_
                refine w_goto rfl ?_
                refine w_iload rfl rfl ?_
                refine w_pushI rfl ?_
                refine w_icmp_ge rfl (fun h => absurd h (by decide)) (fun _ => ?_)
                refine w_aload rfl rfl ?_
                refine w_getR (r := 43) rfl rfl (hR _ fmR_42_4) ?_
                refine w_iload rfl rfl ?_
                refine w_pushL rfl ?_
                refine w_lastv (j := 58) rfl rfl (by decide) (by unfold vp_in; decide) rfl ?_
                refine w_iincv (z := 59) rfl rfl (by decide) rfl ?_
                refine w_goto rfl ?_
                refine w_iload rfl rfl ?_
                refine w_pushI rfl ?_
                refine w_icmp_ge rfl (fun h => absurd h (by decide)) (fun _ => ?_)
                refine w_aload rfl rfl ?_
                refine w_getR (r := 43) rfl rfl (hR _ fmR_42_4) ?_
                refine w_iload rfl rfl ?_
                refine w_pushL rfl ?_
                refine w_lastv (j := 59) rfl rfl (by decide) (by unfold vp_in; decide) rfl ?_
                refine w_iincv (z := 60) rfl rfl (by decide) rfl ?_
                refine w_goto rfl ?_
                refine w_iload rfl rfl ?_
                refine w_pushI rfl ?_
                refine w_icmp_ge rfl (fun _ => ?_) (fun h => absurd (by decide) h)
                refine w_vret rfl rfl ?_
                show gW _ _ _ _ _ _ _ _ _ _
                refine w_pushI rfl ?_
                refine w_iret rfl (Or.inl rfl) ?_
                exact ⟨congrArg (fun v => some (Value.int v)) (show (1 : Int32) = f1_row (2) b c by have e0 : (2 : Int32).toInt = 2 := rfl; exact ite_eq_of (fun _ => ite_eq_of (fun hc => absurd hc (by omega)) (fun _ => rfl)) (fun hc => absurd (by omega) hc)), rfl, fun x hx => (gU_o (by omega)).trans ((gU_o (by omega)).trans (gU_o (by omega))), fun x hx => (gU_o (by omega)).trans ((gU_o (by omega)).trans ((gU_o (by omega)).trans ((gU_o (by omega)).trans ((gU_o (by omega)).trans ((gU_o (by omega)).trans ((gU_o (by omega)).trans ((gU_o (by omega)).trans ((gU_o (by omega)).trans ((gU_o (by omega)).trans ((gU_o (by omega)).trans ((gU_o (by omega)).trans ((gU_o (by omega)).trans ((gU_o (by omega)).trans ((gU_o (by omega)).trans ((gU_o (by omega)).trans ((gU_o (by omega)).trans ((gU_o (by omega)).trans ((gU_o (by omega)).trans ((gU_o (by omega)).trans ((gU_o (by omega)).trans ((gU_o (by omega)).trans ((gU_o (by omega)).trans ((gU_o (by omega)).trans ((gU_o (by omega)).trans ((gU_o (by omega)).trans ((gU_o (by omega)).trans ((gU_o (by omega)).trans ((gU_o (by omega)).trans ((gU_o (by omega)).trans ((gU_o (by omega)).trans ((gU_o (by omega)).trans ((gU_o (by omega)).trans ((gU_o (by omega)).trans ((gU_o (by omega)).trans ((gU_o (by omega)).trans ((gU_o (by omega)).trans ((gU_o (by omega)).trans ((gU_o (by omega)).trans ((gU_o (by omega)).trans ((gU_o (by omega)).trans ((gU_o (by omega)).trans ((gU_o (by omega)).trans ((gU_o (by omega)).trans ((gU_o (by omega)).trans ((gU_o (by omega)).trans ((gU_o (by omega)).trans ((gU_o (by omega)).trans ((gU_o (by omega)).trans ((gU_o (by omega)).trans ((gU_o (by omega)).trans ((gU_o (by omega)).trans ((gU_o (by omega)).trans ((gU_o (by omega)).trans ((gU_o (by omega)).trans ((gU_o (by omega)).trans ((gU_o (by omega)).trans ((gU_o (by omega)).trans ((gU_o (by omega)).trans (gU_o (by omega)))))))))))))))))))))))))))))))))))))))))))))))))))))))))))), fun x hx => rfl⟩
              · obtain rfl : a = 3 := i_is hs7 (by decide)
                refine w_aaldv (j := 3) (r := 44) rfl rfl (by decide) (by unfold vp_in; decide) (hR _ fmR_37_3) ?_
                refine w_iload rfl rfl ?_
                refine w_iload rfl rfl ?_
                refine w_callVi (As := [_, _]) (le := [some _, some _, some _, none]) rfl rfl rfl (Nat.le_of_ble_eq_true rfl) (Nat.le_of_ble_eq_true rfl) rfl ?_
                refine w_aload rfl rfl ?_
                refine w_pushI rfl ?_
                refine w_putI rfl rfl ?_
                refine w_aload rfl rfl ?_
                refine w_iload rfl rfl ?_
                refine w_putI rfl rfl ?_
                refine w_aload rfl rfl ?_
                refine w_iload rfl rfl ?_
                refine w_putI rfl rfl ?_
                refine w_pushI rfl ?_
                refine w_istore rfl rfl ?_
                refine w_iload rfl rfl ?_
                refine w_pushI rfl ?_
                refine w_icmp_ge rfl (fun h => absurd h (by decide)) (fun _ => ?_)
                refine w_aload rfl rfl ?_
                refine w_getR (r := 45) rfl rfl (hR _ fmR_44_4) ?_
                refine w_iload rfl rfl ?_
                refine w_pushL rfl ?_
                refine w_lastv (j := 0) rfl rfl (by decide) (by unfold vp_in; decide) rfl ?_
                refine w_iincv (z := 1) rfl rfl (by decide) rfl ?_
                refine w_goto rfl ?_
                refine w_iload rfl rfl ?_
                refine w_pushI rfl ?_
                refine w_icmp_ge rfl (fun h => absurd h (by decide)) (fun _ => ?_)
                refine w_aload rfl rfl ?_
                refine w_getR (r := 45) rfl rfl (hR _ fmR_44_4) ?_
                refine w_iload rfl rfl ?_
                refine w_pushL rfl ?_
                refine w_lastv (j := 1) rfl rfl (by decide) (by unfold vp_in; decide) rfl ?_
                refine w_iincv (z := 2) rfl rfl (by decide) rfl ?_
                refine w_goto rfl ?_
                refine w_iload rfl rfl ?_
                refine w_pushI rfl ?_
                refine w_icmp_ge rfl (fun h => absurd h (by decide)) (fun _ => ?_)
                refine w_aload rfl rfl ?_
                refine w_getR (r := 45) rfl rfl (hR _ fmR_44_4) ?_
                refine w_iload rfl rfl ?_
                refine w_pushL rfl ?_
                refine w_lastv (j := 2) rfl rfl (by decide) (by unfold vp_in; decide) rfl ?_
                refine w_iincv (z := 3) rfl rfl (by decide) rfl ?_
                refine w_goto rfl ?_
                refine w_iload rfl rfl ?_
                refine w_pushI rfl ?_
                refine w_icmp_ge rfl (fun h => absurd h (by decide)) (fun _ => ?_)
                refine w_aload rfl rfl ?_
                refine w_getR (r := 45) rfl rfl (hR _ fmR_44_4) ?_
                refine w_iload rfl rfl ?_
                refine w_pushL rfl ?_
                refine w_lastv (j := 3) rfl rfl (by decide) (by unfold vp_in; decide) rfl ?_
                refine w_iincv (z := 4) rfl rfl (by decide) rfl ?_
                refine w_goto rfl ?_
                refine w_iload rfl rfl ?_
                refine w_pushI rfl ?_
                refine w_icmp_ge rfl (fun h => absurd h (by decide)) (fun _ => ?_)
                refine w_aload rfl rfl ?_
                refine w_getR (r := 45) rfl rfl (hR _ fmR_44_4) ?_
                refine w_iload rfl rfl ?_
                refine w_pushL rfl ?_
                refine w_lastv (j := 4) rfl rfl (by decide) (by unfold vp_in; decide) rfl ?_
                refine w_iincv (z := 5) rfl rfl (by decide) rfl ?_
                refine w_goto rfl ?_
                refine w_iload rfl rfl ?_
                refine w_pushI rfl ?_
                refine w_icmp_ge rfl (fun h => absurd h (by decide)) (fun _ => ?_)
                refine w_aload rfl rfl ?_
                refine w_getR (r := 45) rfl rfl (hR _ fmR_44_4) ?_
                refine w_iload rfl rfl ?_
                refine w_pushL rfl ?_
                refine w_lastv (j := 5) rfl rfl (by decide) (by unfold vp_in; decide) rfl ?_
                refine w_iincv (z := 6) rfl rfl (by decide) rfl ?_
                refine w_goto rfl ?_
                refine w_iload rfl rfl ?_
                refine w_pushI rfl ?_
                refine w_icmp_ge rfl (fun h => absurd h (by decide)) (fun _ => ?_)
                refine w_aload rfl rfl ?_
                refine w_getR (r := 45) rfl rfl (hR _ fmR_44_4) ?_
                refine w_iload rfl rfl ?_
                refine w_pushL rfl ?_
                refine w_lastv (j := 6) rfl rfl (by decide) (by unfold vp_in; decide) rfl ?_
                refine w_iincv (z := 7) rfl rfl (by decide) rfl ?_
                refine w_goto rfl ?_
                refine w_iload rfl rfl ?_
                refine w_pushI rfl ?_
                refine w_icmp_ge rfl (fun h => absurd h (by decide)) (fun _ => ?_)
                refine w_aload rfl rfl ?_
                refine w_getR (r := 45) rfl rfl (hR _ fmR_44_4) ?_
                refine w_iload rfl rfl ?_
                refine w_pushL rfl ?_
                refine w_lastv (j := 7) rfl rfl (by decide) (by unfold vp_in; decide) rfl ?_
                refine w_iincv (z := 8) rfl rfl (by decide) rfl ?_
                refine w_goto rfl ?_
                refine w_iload rfl rfl ?_
                refine w_pushI rfl ?_
                refine w_icmp_ge rfl (fun h => absurd h (by decide)) (fun _ => ?_)
                refine w_aload rfl rfl ?_
                refine w_getR (r := 45) rfl rfl (hR _ fmR_44_4) ?_
                refine w_iload rfl rfl ?_
                refine w_pushL rfl ?_
                refine w_lastv (j := 8) rfl rfl (by decide) (by unfold vp_in; decide) rfl ?_
                refine w_iincv (z := 9) rfl rfl (by decide) rfl ?_
                refine w_goto rfl ?_
                refine w_iload rfl rfl ?_
                refine w_pushI rfl ?_
                refine w_icmp_ge rfl (fun h => absurd h (by decide)) (fun _ => ?_)
                refine w_aload rfl rfl ?_
                refine w_getR (r := 45) rfl rfl (hR _ fmR_44_4) ?_
                refine w_iload rfl rfl ?_
                refine w_pushL rfl ?_
                refine w_lastv (j := 9) rfl rfl (by decide) (by unfold vp_in; decide) rfl ?_
                refine w_iincv (z := 10) rfl rfl (by decide) rfl ?_
                refine w_goto rfl ?_
                refine w_iload rfl rfl ?_
                refine w_pushI rfl ?_
                refine w_icmp_ge rfl (fun h => absurd h (by decide)) (fun _ => ?_)
                refine w_aload rfl rfl ?_
                refine w_getR (r := 45) rfl rfl (hR _ fmR_44_4) ?_
                refine w_iload rfl rfl ?_
                refine w_pushL rfl ?_
                refine w_lastv (j := 10) rfl rfl (by decide) (by unfold vp_in; decide) rfl ?_
                refine w_iincv (z := 11) rfl rfl (by decide) rfl ?_
                refine w_goto rfl ?_
                refine w_iload rfl rfl ?_
                refine w_pushI rfl ?_
                refine w_icmp_ge rfl (fun h => absurd h (by decide)) (fun _ => ?_)
                refine w_aload rfl rfl ?_
                refine w_getR (r := 45) rfl rfl (hR _ fmR_44_4) ?_
                refine w_iload rfl rfl ?_
                refine w_pushL rfl ?_
                refine w_lastv (j := 11) rfl rfl (by decide) (by unfold vp_in; decide) rfl ?_
                refine w_iincv (z := 12) rfl rfl (by decide) rfl ?_
                refine w_goto rfl ?_
                refine w_iload rfl rfl ?_
                refine w_pushI rfl ?_
                refine w_icmp_ge rfl (fun h => absurd h (by decide)) (fun _ => ?_)
                refine w_aload rfl rfl ?_
                refine w_getR (r := 45) rfl rfl (hR _ fmR_44_4) ?_
                refine w_iload rfl rfl ?_
                refine w_pushL rfl ?_
                refine w_lastv (j := 12) rfl rfl (by decide) (by unfold vp_in; decide) rfl ?_
                refine w_iincv (z := 13) rfl rfl (by decide) rfl ?_
                refine w_goto rfl ?_
                refine w_iload rfl rfl ?_
                refine w_pushI rfl ?_
                refine w_icmp_ge rfl (fun h => absurd h (by decide)) (fun _ => ?_)
                refine w_aload rfl rfl ?_
                refine w_getR (r := 45) rfl rfl (hR _ fmR_44_4) ?_
                refine w_iload rfl rfl ?_
                refine w_pushL rfl ?_
                refine w_lastv (j := 13) rfl rfl (by decide) (by unfold vp_in; decide) rfl ?_
                refine w_iincv (z := 14) rfl rfl (by decide) rfl ?_
                refine w_goto rfl ?_
                refine w_iload rfl rfl ?_
                refine w_pushI rfl ?_
                refine w_icmp_ge rfl (fun h => absurd h (by decide)) (fun _ => ?_)
                refine w_aload rfl rfl ?_
                refine w_getR (r := 45) rfl rfl (hR _ fmR_44_4) ?_
                refine w_iload rfl rfl ?_
                refine w_pushL rfl ?_
                refine w_lastv (j := 14) rfl rfl (by decide) (by unfold vp_in; decide) rfl ?_
                refine w_iincv (z := 15) rfl rfl (by decide) rfl ?_
                refine w_goto rfl ?_
                refine w_iload rfl rfl ?_
                refine w_pushI rfl ?_
                refine w_icmp_ge rfl (fun h => absurd h (by decide)) (fun _ => ?_)
                refine w_aload rfl rfl ?_
                refine w_getR (r := 45) rfl rfl (hR _ fmR_44_4) ?_
                refine w_iload rfl rfl ?_
                refine w_pushL rfl ?_
                refine w_lastv (j := 15) rfl rfl (by decide) (by unfold vp_in; decide) rfl ?_
                refine w_iincv (z := 16) rfl rfl (by decide) rfl ?_
                refine w_goto rfl ?_
                refine w_iload rfl rfl ?_
                refine w_pushI rfl ?_
                refine w_icmp_ge rfl (fun h => absurd h (by decide)) (fun _ => ?_)
                refine w_aload rfl rfl ?_
                refine w_getR (r := 45) rfl rfl (hR _ fmR_44_4) ?_
                refine w_iload rfl rfl ?_
                refine w_pushL rfl ?_
                refine w_lastv (j := 16) rfl rfl (by decide) (by unfold vp_in; decide) rfl ?_
                refine w_iincv (z := 17) rfl rfl (by decide) rfl ?_
                refine w_goto rfl ?_
                refine w_iload rfl rfl ?_
                refine w_pushI rfl ?_
                refine w_icmp_ge rfl (fun h => absurd h (by decide)) (fun _ => ?_)
                refine w_aload rfl rfl ?_
                refine w_getR (r := 45) rfl rfl (hR _ fmR_44_4) ?_
                refine w_iload rfl rfl ?_
                refine w_pushL rfl ?_
                refine w_lastv (j := 17) rfl rfl (by decide) (by unfold vp_in; decide) rfl ?_
                refine w_iincv (z := 18) rfl rfl (by decide) rfl ?_
                refine w_goto rfl ?_
                refine w_iload rfl rfl ?_
                refine w_pushI rfl ?_
                refine w_icmp_ge rfl (fun h => absurd h (by decide)) (fun _ => ?_)
                refine w_aload rfl rfl ?_
                refine w_getR (r := 45) rfl rfl (hR _ fmR_44_4) ?_
                refine w_iload rfl rfl ?_
                refine w_pushL rfl ?_
                refine w_lastv (j := 18) rfl rfl (by decide) (by unfold vp_in; decide) rfl ?_
                refine w_iincv (z := 19) rfl rfl (by decide) rfl ?_
                refine w_goto rfl ?_
                refine w_iload rfl rfl ?_
                refine w_pushI rfl ?_
                refine w_icmp_ge rfl (fun h => absurd h (by decide)) (fun _ => ?_)
                refine w_aload rfl rfl ?_
                refine w_getR (r := 45) rfl rfl (hR _ fmR_44_4) ?_
                refine w_iload rfl rfl ?_
                refine w_pushL rfl ?_
                refine w_lastv (j := 19) rfl rfl (by decide) (by unfold vp_in; decide) rfl ?_
                refine w_iincv (z := 20) rfl rfl (by decide) rfl ?_
                refine w_goto rfl ?_
                refine w_iload rfl rfl ?_
                refine w_pushI rfl ?_
                refine w_icmp_ge rfl (fun h => absurd h (by decide)) (fun _ => ?_)
                refine w_aload rfl rfl ?_
                refine w_getR (r := 45) rfl rfl (hR _ fmR_44_4) ?_
                refine w_iload rfl rfl ?_
                refine w_pushL rfl ?_
                refine w_lastv (j := 20) rfl rfl (by decide) (by unfold vp_in; decide) rfl ?_
                refine w_iincv (z := 21) rfl rfl (by decide) rfl ?_
                refine w_goto rfl ?_
                refine w_iload rfl rfl ?_
                refine w_pushI rfl ?_
                refine w_icmp_ge rfl (fun h => absurd h (by decide)) (fun _ => ?_)
                refine w_aload rfl rfl ?_
                refine w_getR (r := 45) rfl rfl (hR _ fmR_44_4) ?_
                refine w_iload rfl rfl ?_
                refine w_pushL rfl ?_
                refine w_lastv (j := 21) rfl rfl (by decide) (by unfold vp_in; decide) rfl ?_
                refine w_iincv (z := 22) rfl rfl (by decide) rfl ?_
                refine w_goto rfl ?_
                refine w_iload rfl rfl ?_
                refine w_pushI rfl ?_
                refine w_icmp_ge rfl (fun h => absurd h (by decide)) (fun _ => ?_)
                refine w_aload rfl rfl ?_
                refine w_getR (r := 45) rfl rfl (hR _ fmR_44_4) ?_
                refine w_iload rfl rfl ?_
                refine w_pushL rfl ?_
                refine w_lastv (j := 22) rfl rfl (by decide) (by unfold vp_in; decide) rfl ?_
                refine w_iincv (z := 23) rfl rfl (by decide) rfl ?_
                refine w_goto rfl ?_
                refine w_iload rfl rfl ?_
                refine w_pushI rfl ?_
                refine w_icmp_ge rfl (fun h => absurd h (by decide)) (fun _ => ?_)
                refine w_aload rfl rfl ?_
                refine w_getR (r := 45) rfl rfl (hR _ fmR_44_4) ?_
                refine w_iload rfl rfl ?_
                refine w_pushL rfl ?_
                refine w_lastv (j := 23) rfl rfl (by decide) (by unfold vp_in; decide) rfl ?_
                refine w_iincv (z := 24) rfl rfl (by decide) rfl ?_
                refine w_goto rfl ?_
                refine w_iload rfl rfl ?_
                refine w_pushI rfl ?_
                refine w_icmp_ge rfl (fun h => absurd h (by decide)) (fun _ => ?_)
                refine w_aload rfl rfl ?_
                refine w_getR (r := 45) rfl rfl (hR _ fmR_44_4) ?_
                refine w_iload rfl rfl ?_
                refine w_pushL rfl ?_
                refine w_lastv (j := 24) rfl rfl (by decide) (by unfold vp_in; decide) rfl ?_
                refine w_iincv (z := 25) rfl rfl (by decide) rfl ?_
                refine w_goto rfl ?_
                refine w_iload rfl rfl ?_
                refine w_pushI rfl ?_
                refine w_icmp_ge rfl (fun h => absurd h (by decide)) (fun _ => ?_)
                refine w_aload rfl rfl ?_
                refine w_getR (r := 45) rfl rfl (hR _ fmR_44_4) ?_
                refine w_iload rfl rfl ?_
                refine w_pushL rfl ?_
                refine w_lastv (j := 25) rfl rfl (by decide) (by unfold vp_in; decide) rfl ?_
                refine w_iincv (z := 26) rfl rfl (by decide) rfl ?_
                refine w_goto rfl ?_
                refine w_iload rfl rfl ?_
                refine w_pushI rfl ?_
                refine w_icmp_ge rfl (fun h => absurd h (by decide)) (fun _ => ?_)
                refine w_aload rfl rfl ?_
                refine w_getR (r := 45) rfl rfl (hR _ fmR_44_4) ?_
                refine w_iload rfl rfl ?_
                refine w_pushL rfl ?_
                refine w_lastv (j := 26) rfl rfl (by decide) (by unfold vp_in; decide) rfl ?_
                refine w_iincv (z := 27) rfl rfl (by decide) rfl ?_
                refine w_goto rfl ?_
                refine w_iload rfl rfl ?_
                refine w_pushI rfl ?_
                refine w_icmp_ge rfl (fun h => absurd h (by decide)) (fun _ => ?_)
                refine w_aload rfl rfl ?_
                refine w_getR (r := 45) rfl rfl (hR _ fmR_44_4) ?_
                refine w_iload rfl rfl ?_
                refine w_pushL rfl ?_
                refine w_lastv (j := 27) rfl rfl (by decide) (by unfold vp_in; decide) rfl ?_
                refine w_iincv (z := 28) rfl rfl (by decide) rfl ?_
                refine w_goto rfl ?_
                refine w_iload rfl rfl ?_
                refine w_pushI rfl ?_
                refine w_icmp_ge rfl (fun h => absurd h (by decide)) (fun _ => ?_)
                refine w_aload rfl rfl ?_
                refine w_getR (r := 45) rfl rfl (hR _ fmR_44_4) ?_
                refine w_iload rfl rfl ?_
                refine w_pushL rfl ?_
                refine w_lastv (j := 28) rfl rfl (by decide) (by unfold vp_in; decide) rfl ?_
                refine w_iincv (z := 29) rfl rfl (by decide) rfl ?_
                refine w_goto rfl ?_
                refine w_iload rfl rfl ?_
                refine w_pushI rfl ?_
                refine w_icmp_ge rfl (fun h => absurd h (by decide)) (fun _ => ?_)
                refine w_aload rfl rfl ?_
                refine w_getR (r := 45) rfl rfl (hR _ fmR_44_4) ?_
                refine w_iload rfl rfl ?_
                refine w_pushL rfl ?_
                refine w_lastv (j := 29) rfl rfl (by decide) (by unfold vp_in; decide) rfl ?_
                refine w_iincv (z := 30) rfl rfl (by decide) rfl ?_
                refine w_goto rfl ?_
                refine w_iload rfl rfl ?_
                refine w_pushI rfl ?_
                refine w_icmp_ge rfl (fun h => absurd h (by decide)) (fun _ => ?_)
                refine w_aload rfl rfl ?_
                refine w_getR (r := 45) rfl rfl (hR _ fmR_44_4) ?_
                refine w_iload rfl rfl ?_
                refine w_pushL rfl ?_
                refine w_lastv (j := 30) rfl rfl (by decide) (by unfold vp_in; decide) rfl ?_
                refine w_iincv (z := 31) rfl rfl (by decide) rfl ?_
                refine w_goto rfl ?_
                refine w_iload rfl rfl ?_
                refine w_pushI rfl ?_
                refine w_icmp_ge rfl (fun h => absurd h (by decide)) (fun _ => ?_)
                refine w_aload rfl rfl ?_
                refine w_getR (r := 45) rfl rfl (hR _ fmR_44_4) ?_
                refine w_iload rfl rfl ?_
                refine w_pushL rfl ?_
                refine w_lastv (j := 31) rfl rfl (by decide) (by unfold vp_in; decide) rfl ?_
                refine w_iincv (z := 32) rfl rfl (by decide) rfl ?_
                refine w_goto rfl ?_
                refine w_iload rfl rfl ?_
                refine w_pushI rfl ?_
                refine w_icmp_ge rfl (fun h => absurd h (by decide)) (fun _ => ?_)
                refine w_aload rfl rfl ?_
                refine w_getR (r := 45) rfl rfl (hR _ fmR_44_4) ?_
                refine w_iload rfl rfl ?_
                refine w_pushL rfl ?_
                refine w_lastv (j := 32) rfl rfl (by decide) (by unfold vp_in; decide) rfl ?_
                refine w_iincv (z := 33) rfl rfl (by decide) rfl ?_
                refine w_goto rfl ?_
                refine w_iload rfl rfl ?_
                refine w_pushI rfl ?_
                refine w_icmp_ge rfl (fun h => absurd h (by decide)) (fun _ => ?_)
                refine w_aload rfl rfl ?_
                refine w_getR (r := 45) rfl rfl (hR _ fmR_44_4) ?_
                refine w_iload rfl rfl ?_
                refine w_pushL rfl ?_
                refine w_lastv (j := 33) rfl rfl (by decide) (by unfold vp_in; decide) rfl ?_
                refine w_iincv (z := 34) rfl rfl (by decide) rfl ?_
                refine w_goto rfl ?_
                refine w_iload rfl rfl ?_
                refine w_pushI rfl ?_
                refine w_icmp_ge rfl (fun h => absurd h (by decide)) (fun _ => ?_)
                refine w_aload rfl rfl ?_
                refine w_getR (r := 45) rfl rfl (hR _ fmR_44_4) ?_
                refine w_iload rfl rfl ?_
                refine w_pushL rfl ?_
                refine w_lastv (j := 34) rfl rfl (by decide) (by unfold vp_in; decide) rfl ?_
                refine w_iincv (z := 35) rfl rfl (by decide) rfl ?_
                refine w_goto rfl ?_
                refine w_iload rfl rfl ?_
                refine w_pushI rfl ?_
                refine w_icmp_ge rfl (fun h => absurd h (by decide)) (fun _ => ?_)
                refine w_aload rfl rfl ?_
                refine w_getR (r := 45) rfl rfl (hR _ fmR_44_4) ?_
                refine w_iload rfl rfl ?_
                refine w_pushL rfl ?_
                refine w_lastv (j := 35) rfl rfl (by decide) (by unfold vp_in; decide) rfl ?_
                refine w_iincv (z := 36) rfl rfl (by decide) rfl ?_
                refine w_goto rfl ?_
                refine w_iload rfl rfl ?_
                refine w_pushI rfl ?_
                refine w_icmp_ge rfl (fun h => absurd h (by decide)) (fun _ => ?_)
                refine w_aload rfl rfl ?_
                refine w_getR (r := 45) rfl rfl (hR _ fmR_44_4) ?_
                refine w_iload rfl rfl ?_
                refine w_pushL rfl ?_
                refine w_lastv (j := 36) rfl rfl (by decide) (by unfold vp_in; decide) rfl ?_
                refine w_iincv (z := 37) rfl rfl (by decide) rfl ?_
                refine w_goto rfl ?_
                refine w_iload rfl rfl ?_
                refine w_pushI rfl ?_
                refine w_icmp_ge rfl (fun h => absurd h (by decide)) (fun _ => ?_)
                refine w_aload rfl rfl ?_
                refine w_getR (r := 45) rfl rfl (hR _ fmR_44_4) ?_
                refine w_iload rfl rfl ?_
                refine w_pushL rfl ?_
                refine w_lastv (j := 37) rfl rfl (by decide) (by unfold vp_in; decide) rfl ?_
                refine w_iincv (z := 38) rfl rfl (by decide) rfl ?_
                refine w_goto rfl ?_
                refine w_iload rfl rfl ?_
                refine w_pushI rfl ?_
                refine w_icmp_ge rfl (fun h => absurd h (by decide)) (fun _ => ?_)
                refine w_aload rfl rfl ?_
                refine w_getR (r := 45) rfl rfl (hR _ fmR_44_4) ?_
                refine w_iload rfl rfl ?_
                refine w_pushL rfl ?_
                refine w_lastv (j := 38) rfl rfl (by decide) (by unfold vp_in; decide) rfl ?_
                refine w_iincv (z := 39) rfl rfl (by decide) rfl ?_
                refine w_goto rfl ?_
                refine w_iload rfl rfl ?_
                refine w_pushI rfl ?_
                refine w_icmp_ge rfl (fun h => absurd h (by decide)) (fun _ => ?_)
                refine w_aload rfl rfl ?_
                refine w_getR (r := 45) rfl rfl (hR _ fmR_44_4) ?_
                refine w_iload rfl rfl ?_
                refine w_pushL rfl ?_
                refine w_lastv (j := 39) rfl rfl (by decide) (by unfold vp_in; decide) rfl ?_
                refine w_iincv (z := 40) rfl rfl (by decide) rfl ?_
                refine w_goto rfl ?_
                refine w_iload rfl rfl ?_
                refine w_pushI rfl ?_
                refine w_icmp_ge rfl (fun h => absurd h (by decide)) (fun _ => ?_)
                refine w_aload rfl rfl ?_
                refine w_getR (r := 45) rfl rfl (hR _ fmR_44_4) ?_
                refine w_iload rfl rfl ?_
                refine w_pushL rfl ?_
                refine w_lastv (j := 40) rfl rfl (by decide) (by unfold vp_in; decide) rfl ?_
                refine w_iincv (z := 41) rfl rfl (by decide) rfl ?_
                refine w_goto rfl ?_
                refine w_iload rfl rfl ?_
                refine w_pushI rfl ?_
                refine w_icmp_ge rfl (fun h => absurd h (by decide)) (fun _ => ?_)
                refine w_aload rfl rfl ?_
                refine w_getR (r := 45) rfl rfl (hR _ fmR_44_4) ?_
                refine w_iload rfl rfl ?_
                refine w_pushL rfl ?_
                refine w_lastv (j := 41) rfl rfl (by decide) (by unfold vp_in; decide) rfl ?_
                refine w_iincv (z := 42) rfl rfl (by decide) rfl ?_
                refine w_goto rfl ?_
                refine w_iload rfl rfl ?_
                refine w_pushI rfl ?_
                refine w_icmp_ge rfl (fun h => absurd h (by decide)) (fun _ => ?_)
                refine w_aload rfl rfl ?_
                refine w_getR (r := 45) rfl rfl (hR _ fmR_44_4) ?_
                refine w_iload rfl rfl ?_
                refine w_pushL rfl ?_
                refine w_lastv (j := 42) rfl rfl (by decide) (by unfold vp_in; decide) rfl ?_
                refine w_iincv (z := 43) rfl rfl (by decide) rfl ?_
                refine w_goto rfl ?_
                refine w_iload rfl rfl ?_
                refine w_pushI rfl ?_
                refine w_icmp_ge rfl (fun h => absurd h (by decide)) (fun _ => ?_)
                refine w_aload rfl rfl ?_
                refine w_getR (r := 45) rfl rfl (hR _ fmR_44_4) ?_
                refine w_iload rfl rfl ?_
                refine w_pushL rfl ?_
                refine w_lastv (j := 43) rfl rfl (by decide) (by unfold vp_in; decide) rfl ?_
                refine w_iincv (z := 44) rfl rfl (by decide) rfl ?_
                refine w_goto rfl ?_
                refine w_iload rfl rfl ?_
                refine w_pushI rfl ?_
                refine w_icmp_ge rfl (fun h => absurd h (by decide)) (fun _ => ?_)
                refine w_aload rfl rfl ?_
                refine w_getR (r := 45) rfl rfl (hR _ fmR_44_4) ?_
                refine w_iload rfl rfl ?_
                refine w_pushL rfl ?_
                refine w_lastv (j := 44) rfl rfl (by decide) (by unfold vp_in; decide) rfl ?_
                refine w_iincv (z := 45) rfl rfl (by decide) rfl ?_
                refine w_goto rfl ?_
                refine w_iload rfl rfl ?_
                refine w_pushI rfl ?_
                refine w_icmp_ge rfl (fun h => absurd h (by decide)) (fun _ => ?_)
                refine w_aload rfl rfl ?_
                refine w_getR (r := 45) rfl rfl (hR _ fmR_44_4) ?_
                refine w_iload rfl rfl ?_
                refine w_pushL rfl ?_
                refine w_lastv (j := 45) rfl rfl (by decide) (by unfold vp_in; decide) rfl ?_
                refine w_iincv (z := 46) rfl rfl (by decide) rfl ?_
                refine w_goto rfl ?_
                refine w_iload rfl rfl ?_
                refine w_pushI rfl ?_
                refine w_icmp_ge rfl (fun h => absurd h (by decide)) (fun _ => ?_)
                refine w_aload rfl rfl ?_
                refine w_getR (r := 45) rfl rfl (hR _ fmR_44_4) ?_
                refine w_iload rfl rfl ?_
                refine w_pushL rfl ?_
                refine w_lastv (j := 46) rfl rfl (by decide) (by unfold vp_in; decide) rfl ?_
                refine w_iincv (z := 47) rfl rfl (by decide) rfl ?_
                refine w_goto rfl ?_
                refine w_iload rfl rfl ?_
                refine w_pushI rfl ?_
                refine w_icmp_ge rfl (fun h => absurd h (by decide)) (fun _ => ?_)
                refine w_aload rfl rfl ?_
                refine w_getR (r := 45) rfl rfl (hR _ fmR_44_4) ?_
                refine w_iload rfl rfl ?_
                refine w_pushL rfl ?_
                refine w_lastv (j := 47) rfl rfl (by decide) (by unfold vp_in; decide) rfl ?_
                refine w_iincv (z := 48) rfl rfl (by decide) rfl ?_
                refine w_goto rfl ?_
                refine w_iload rfl rfl ?_
                refine w_pushI rfl ?_
                refine w_icmp_ge rfl (fun h => absurd h (by decide)) (fun _ => ?_)
                refine w_aload rfl rfl ?_
                refine w_getR (r := 45) rfl rfl (hR _ fmR_44_4) ?_
                refine w_iload rfl rfl ?_
                refine w_pushL rfl ?_
                refine w_lastv (j := 48) rfl rfl (by decide) (by unfold vp_in; decide) rfl ?_
                refine w_iincv (z := 49) rfl rfl (by decide) rfl ?_
                refine w_goto rfl ?_
                refine w_iload rfl rfl ?_
                refine w_pushI rfl ?_
                refine w_icmp_ge rfl (fun h => absurd h (by decide)) (fun _ => ?_)
                refine w_aload rfl rfl ?_
                refine w_getR (r := 45) rfl rfl (hR _ fmR_44_4) ?_
                refine w_iload rfl rfl ?_
                refine w_pushL rfl ?_
                refine w_lastv (j := 49) rfl rfl (by decide) (by unfold vp_in; decide) rfl ?_
                refine w_iincv (z := 50) rfl rfl (by decide) rfl ?_
                refine w_goto rfl ?_
                refine w_iload rfl rfl ?_
                refine w_pushI rfl ?_
                refine w_icmp_ge rfl (fun h => absurd h (by decide)) (fun _ => ?_)
                refine w_aload rfl rfl ?_
                refine w_getR (r := 45) rfl rfl (hR _ fmR_44_4) ?_
                refine w_iload rfl rfl ?_
                refine w_pushL rfl ?_
                refine w_lastv (j := 50) rfl rfl (by decide) (by unfold vp_in; decide) rfl ?_
                refine w_iincv (z := 51) rfl rfl (by decide) rfl ?_
                refine w_goto rfl ?_
                refine w_iload rfl rfl ?_
                refine w_pushI rfl ?_
                refine w_icmp_ge rfl (fun h => absurd h (by decide)) (fun _ => ?_)
                refine w_aload rfl rfl ?_
                refine w_getR (r := 45) rfl rfl (hR _ fmR_44_4) ?_
                refine w_iload rfl rfl ?_
                refine w_pushL rfl ?_
                refine w_lastv (j := 51) rfl rfl (by decide) (by unfold vp_in; decide) rfl ?_
                refine w_iincv (z := 52) rfl rfl (by decide) rfl ?_
                refine w_goto rfl ?_
                refine w_iload rfl rfl ?_
                refine w_pushI rfl ?_
                refine w_icmp_ge rfl (fun h => absurd h (by decide)) (fun _ => ?_)
                refine w_aload rfl rfl ?_
                refine w_getR (r := 45) rfl rfl (hR _ fmR_44_4) ?_
                refine w_iload rfl rfl ?_
                refine w_pushL rfl ?_
                refine w_lastv (j := 52) rfl rfl (by decide) (by unfold vp_in; decide) rfl ?_
                refine w_iincv (z := 53) rfl rfl (by decide) rfl ?_
                refine w_goto rfl ?_
                refine w_iload rfl rfl ?_
                refine w_pushI rfl ?_
                refine w_icmp_ge rfl (fun h => absurd h (by decide)) (fun _ => ?_)
                refine w_aload rfl rfl ?_
                refine w_getR (r := 45) rfl rfl (hR _ fmR_44_4) ?_
                refine w_iload rfl rfl ?_
                refine w_pushL rfl ?_
                refine w_lastv (j := 53) rfl rfl (by decide) (by unfold vp_in; decide) rfl ?_
                refine w_iincv (z := 54) rfl rfl (by decide) rfl ?_
                refine w_goto rfl ?_
                refine w_iload rfl rfl ?_
                refine w_pushI rfl ?_
                refine w_icmp_ge rfl (fun h => absurd h (by decide)) (fun _ => ?_)
                refine w_aload rfl rfl ?_
                refine w_getR (r := 45) rfl rfl (hR _ fmR_44_4) ?_
                refine w_iload rfl rfl ?_
                refine w_pushL rfl ?_
                refine w_lastv (j := 54) rfl rfl (by decide) (by unfold vp_in; decide) rfl ?_
                refine w_iincv (z := 55) rfl rfl (by decide) rfl ?_
                refine w_goto rfl ?_
                refine w_iload rfl rfl ?_
                refine w_pushI rfl ?_
                refine w_icmp_ge rfl (fun h => absurd h (by decide)) (fun _ => ?_)
                refine w_aload rfl rfl ?_
                refine w_getR (r := 45) rfl rfl (hR _ fmR_44_4) ?_
                refine w_iload rfl rfl ?_
                refine w_pushL rfl ?_
                refine w_lastv (j := 55) rfl rfl (by decide) (by unfold vp_in; decide) rfl ?_
                refine w_iincv (z := 56) rfl rfl (by decide) rfl ?_
                refine w_goto rfl ?_
                refine w_iload rfl rfl ?_
                refine w_pushI rfl ?_
                refine w_icmp_ge rfl (fun h => absurd h (by decide)) (fun _ => ?_)
                refine w_aload rfl rfl ?_
                refine w_getR (r := 45) rfl rfl (hR _ fmR_44_4) ?_
                refine w_iload rfl rfl ?_
                refine w_pushL rfl ?_
                refine w_lastv (j := 56) rfl rfl (by decide) (by unfold vp_in; decide) rfl ?_
                refine w_iincv (z := 57) rfl rfl (by decide) rfl ?_
                refine w_goto rfl ?_
                refine w_iload rfl rfl ?_
                refine w_pushI rfl ?_
                refine w_icmp_ge rfl (fun h => absurd h (by decide)) (fun _ => ?_)
                refine w_aload rfl rfl ?_
                refine w_getR (r := 45) rfl rfl (hR _ fmR_44_4) ?_
                refine w_iload rfl rfl ?_
                refine w_pushL rfl ?_
                refine w_lastv (j := 57) rfl rfl (by decide) (by unfold vp_in; decide) rfl ?_
                refine w_iincv (z := 58) rfl rfl (by decide) rfl ?_
                refine w_goto rfl ?_
                refine w_iload rfl rfl ?_
                refine w_pushI rfl ?_
                refine w_icmp_ge rfl (fun h => absurd h (by decide)) (fun _ => ?_)
                refine w_aload rfl rfl ?_
                refine w_getR (r := 45) rfl rfl (hR _ fmR_44_4) ?_
                refine w_iload rfl rfl ?_
                refine w_pushL rfl ?_
                refine w_lastv (j := 58) rfl rfl (by decide) (by unfold vp_in; decide) rfl ?_
                refine w_iincv (z := 59) rfl rfl (by decide) rfl ?_
                refine w_goto rfl ?_
                refine w_iload rfl rfl ?_
                refine w_pushI rfl ?_
                refine w_icmp_ge rfl (fun h => absurd h (by decide)) (fun _ => ?_)
                refine w_aload rfl rfl ?_
                refine w_getR (r := 45) rfl rfl (hR _ fmR_44_4) ?_
                refine w_iload rfl rfl ?_
                refine w_pushL rfl ?_
                refine w_lastv (j := 59) rfl rfl (by decide) (by unfold vp_in; decide) rfl ?_
                refine w_iincv (z := 60) rfl rfl (by decide) rfl ?_
                refine w_goto rfl ?_
                refine w_iload rfl rfl ?_
                refine w_pushI rfl ?_
                refine w_icmp_ge rfl (fun _ => ?_) (fun h => absurd (by decide) h)
                refine w_vret rfl rfl ?_
                show gW _ _ _ _ _ _ _ _ _ _
                refine w_pushI rfl ?_
                refine w_iret rfl (Or.inl rfl) ?_
                exact ⟨congrArg (fun v => some (Value.int v)) (show (1 : Int32) = f1_row (3) b c by have e0 : (3 : Int32).toInt = 3 := rfl; exact ite_eq_of (fun _ => ite_eq_of (fun hc => absurd hc (by omega)) (fun _ => rfl)) (fun hc => absurd (by omega) hc)), rfl, fun x hx => (gU_o (by omega)).trans ((gU_o (by omega)).trans (gU_o (by omega))), fun x hx => (gU_o (by omega)).trans ((gU_o (by omega)).trans ((gU_o (by omega)).trans ((gU_o (by omega)).trans ((gU_o (by omega)).trans ((gU_o (by omega)).trans ((gU_o (by omega)).trans ((gU_o (by omega)).trans ((gU_o (by omega)).trans ((gU_o (by omega)).trans ((gU_o (by omega)).trans ((gU_o (by omega)).trans ((gU_o (by omega)).trans ((gU_o (by omega)).trans ((gU_o (by omega)).trans ((gU_o (by omega)).trans ((gU_o (by omega)).trans ((gU_o (by omega)).trans ((gU_o (by omega)).trans ((gU_o (by omega)).trans ((gU_o (by omega)).trans ((gU_o (by omega)).trans ((gU_o (by omega)).trans ((gU_o (by omega)).trans ((gU_o (by omega)).trans ((gU_o (by omega)).trans ((gU_o (by omega)).trans ((gU_o (by omega)).trans ((gU_o (by omega)).trans ((gU_o (by omega)).trans ((gU_o (by omega)).trans ((gU_o (by omega)).trans ((gU_o (by omega)).trans ((gU_o (by omega)).trans ((gU_o (by omega)).trans ((gU_o (by omega)).trans ((gU_o (by omega)).trans ((gU_o (by omega)).trans ((gU_o (by omega)).trans ((gU_o (by omega)).trans ((gU_o (by omega)).trans ((gU_o (by omega)).trans ((gU_o (by omega)).trans ((gU_o (by omega)).trans ((gU_o (by omega)).trans ((gU_o (by omega)).trans ((gU_o (by omega)).trans ((gU_o (by omega)).trans ((gU_o (by omega)).trans ((gU_o (by omega)).trans ((gU_o (by omega)).trans ((gU_o (by omega)).trans ((gU_o (by omega)).trans ((gU_o (by omega)).trans ((gU_o (by omega)).trans ((gU_o (by omega)).trans ((gU_o (by omega)).trans ((gU_o (by omega)).trans ((gU_o (by omega)).trans (gU_o (by omega)))))))))))))))))))))))))))))))))))))))))))))))))))))))))))), fun x hx => rfl⟩
              · obtain rfl : a = 4 := i_is hs7 (by decide)
                refine w_aaldv (j := 4) (r := 46) rfl rfl (by decide) (by unfold vp_in; decide) (hR _ fmR_37_4) ?_
                refine w_iload rfl rfl ?_
                refine w_iload rfl rfl ?_
                refine w_callVi (As := [_, _]) (le := [some _, some _, some _, none]) rfl rfl rfl (Nat.le_of_ble_eq_true rfl) (Nat.le_of_ble_eq_true rfl) rfl ?_
                refine w_aload rfl rfl ?_
                refine w_pushI rfl ?_
                refine w_putI rfl rfl ?_
                refine w_aload rfl rfl ?_
                refine w_iload rfl rfl ?_
                refine w_putI rfl rfl ?_
                refine w_aload rfl rfl ?_
                refine w_iload rfl rfl ?_
                refine w_putI rfl rfl ?_
                refine w_pushI rfl ?_
                refine w_istore rfl rfl ?_
                refine w_iload rfl rfl ?_
                refine w_pushI rfl ?_
                refine w_icmp_ge rfl (fun h => absurd h (by decide)) (fun _ => ?_)
                refine w_aload rfl rfl ?_
                refine w_getR (r := 47) rfl rfl (hR _ fmR_46_4) ?_
                refine w_iload rfl rfl ?_
                refine w_pushL rfl ?_
                refine w_lastv (j := 0) rfl rfl (by decide) (by unfold vp_in; decide) rfl ?_
                refine w_iincv (z := 1) rfl rfl (by decide) rfl ?_
                refine w_goto rfl ?_
                refine w_iload rfl rfl ?_
                refine w_pushI rfl ?_
                refine w_icmp_ge rfl (fun h => absurd h (by decide)) (fun _ => ?_)
                refine w_aload rfl rfl ?_
                refine w_getR (r := 47) rfl rfl (hR _ fmR_46_4) ?_
                refine w_iload rfl rfl ?_
                refine w_pushL rfl ?_
                refine w_lastv (j := 1) rfl rfl (by decide) (by unfold vp_in; decide) rfl ?_
                refine w_iincv (z := 2) rfl rfl (by decide) rfl ?_
                refine w_goto rfl ?_
                refine w_iload rfl rfl ?_
                refine w_pushI rfl ?_
                refine w_icmp_ge rfl (fun h => absurd h (by decide)) (fun _ => ?_)
                refine w_aload rfl rfl ?_
                refine w_getR (r := 47) rfl rfl (hR _ fmR_46_4) ?_
                refine w_iload rfl rfl ?_
                refine w_pushL rfl ?_
                refine w_lastv (j := 2) rfl rfl (by decide) (by unfold vp_in; decide) rfl ?_
                refine w_iincv (z := 3) rfl rfl (by decide) rfl ?_
                refine w_goto rfl ?_
                refine w_iload rfl rfl ?_
                refine w_pushI rfl ?_
                refine w_icmp_ge rfl (fun h => absurd h (by decide)) (fun _ => ?_)
                refine w_aload rfl rfl ?_
                refine w_getR (r := 47) rfl rfl (hR _ fmR_46_4) ?_
                refine w_iload rfl rfl ?_
                refine w_pushL rfl ?_
                refine w_lastv (j := 3) rfl rfl (by decide) (by unfold vp_in; decide) rfl ?_
                refine w_iincv (z := 4) rfl rfl (by decide) rfl ?_
                refine w_goto rfl ?_
                refine w_iload rfl rfl ?_
                refine w_pushI rfl ?_
                refine w_icmp_ge rfl (fun h => absurd h (by decide)) (fun _ => ?_)
                refine w_aload rfl rfl ?_
                refine w_getR (r := 47) rfl rfl (hR _ fmR_46_4) ?_
                refine w_iload rfl rfl ?_
                refine w_pushL rfl ?_
                refine w_lastv (j := 4) rfl rfl (by decide) (by unfold vp_in; decide) rfl ?_
                refine w_iincv (z := 5) rfl rfl (by decide) rfl ?_
                refine w_goto rfl ?_
                refine w_iload rfl rfl ?_
                refine w_pushI rfl ?_
                refine w_icmp_ge rfl (fun h => absurd h (by decide)) (fun _ => ?_)
                refine w_aload rfl rfl ?_
                refine w_getR (r := 47) rfl rfl (hR _ fmR_46_4) ?_
                refine w_iload rfl rfl ?_
                refine w_pushL rfl ?_
                refine w_lastv (j := 5) rfl rfl (by decide) (by unfold vp_in; decide) rfl ?_
                refine w_iincv (z := 6) rfl rfl (by decide) rfl ?_
                refine w_goto rfl ?_
                refine w_iload rfl rfl ?_
                refine w_pushI rfl ?_
                refine w_icmp_ge rfl (fun h => absurd h (by decide)) (fun _ => ?_)
                refine w_aload rfl rfl ?_
                refine w_getR (r := 47) rfl rfl (hR _ fmR_46_4) ?_
                refine w_iload rfl rfl ?_
                refine w_pushL rfl ?_
                refine w_lastv (j := 6) rfl rfl (by decide) (by unfold vp_in; decide) rfl ?_
                refine w_iincv (z := 7) rfl rfl (by decide) rfl ?_
                refine w_goto rfl ?_
                refine w_iload rfl rfl ?_
                refine w_pushI rfl ?_
                refine w_icmp_ge rfl (fun h => absurd h (by decide)) (fun _ => ?_)
                refine w_aload rfl rfl ?_
                refine w_getR (r := 47) rfl rfl (hR _ fmR_46_4) ?_
                refine w_iload rfl rfl ?_
                refine w_pushL rfl ?_
                refine w_lastv (j := 7) rfl rfl (by decide) (by unfold vp_in; decide) rfl ?_
                refine w_iincv (z := 8) rfl rfl (by decide) rfl ?_
                refine w_goto rfl ?_
                refine w_iload rfl rfl ?_
                refine w_pushI rfl ?_
                refine w_icmp_ge rfl (fun h => absurd h (by decide)) (fun _ => ?_)
                refine w_aload rfl rfl ?_
                refine w_getR (r := 47) rfl rfl (hR _ fmR_46_4) ?_
                refine w_iload rfl rfl ?_
                refine w_pushL rfl ?_
                refine w_lastv (j := 8) rfl rfl (by decide) (by unfold vp_in; decide) rfl ?_
                refine w_iincv (z := 9) rfl rfl (by decide) rfl ?_
                refine w_goto rfl ?_
                refine w_iload rfl rfl ?_
                refine w_pushI rfl ?_
                refine w_icmp_ge rfl (fun h => absurd h (by decide)) (fun _ => ?_)
                refine w_aload rfl rfl ?_
                refine w_getR (r := 47) rfl rfl (hR _ fmR_46_4) ?_
                refine w_iload rfl rfl ?_
                refine w_pushL rfl ?_
                refine w_lastv (j := 9) rfl rfl (by decide) (by unfold vp_in; decide) rfl ?_
                refine w_iincv (z := 10) rfl rfl (by decide) rfl ?_
                refine w_goto rfl ?_
                refine w_iload rfl rfl ?_
                refine w_pushI rfl ?_
                refine w_icmp_ge rfl (fun h => absurd h (by decide)) (fun _ => ?_)
                refine w_aload rfl rfl ?_
                refine w_getR (r := 47) rfl rfl (hR _ fmR_46_4) ?_
                refine w_iload rfl rfl ?_
                refine w_pushL rfl ?_
                refine w_lastv (j := 10) rfl rfl (by decide) (by unfold vp_in; decide) rfl ?_
                refine w_iincv (z := 11) rfl rfl (by decide) rfl ?_
                refine w_goto rfl ?_
                refine w_iload rfl rfl ?_
                refine w_pushI rfl ?_
                refine w_icmp_ge rfl (fun h => absurd h (by decide)) (fun _ => ?_)
                refine w_aload rfl rfl ?_
                refine w_getR (r := 47) rfl rfl (hR _ fmR_46_4) ?_
                refine w_iload rfl rfl ?_
                refine w_pushL rfl ?_
                refine w_lastv (j := 11) rfl rfl (by decide) (by unfold vp_in; decide) rfl ?_
                refine w_iincv (z := 12) rfl rfl (by decide) rfl ?_
                refine w_goto rfl ?_
                refine w_iload rfl rfl ?_
                refine w_pushI rfl ?_
                refine w_icmp_ge rfl (fun h => absurd h (by decide)) (fun _ => ?_)
                refine w_aload rfl rfl ?_
                refine w_getR (r := 47) rfl rfl (hR _ fmR_46_4) ?_
                refine w_iload rfl rfl ?_
                refine w_pushL rfl ?_
                refine w_lastv (j := 12) rfl rfl (by decide) (by unfold vp_in; decide) rfl ?_
                refine w_iincv (z := 13) rfl rfl (by decide) rfl ?_
                refine w_goto rfl ?_
                refine w_iload rfl rfl ?_
                refine w_pushI rfl ?_
                refine w_icmp_ge rfl (fun h => absurd h (by decide)) (fun _ => ?_)
                refine w_aload rfl rfl ?_
                refine w_getR (r := 47) rfl rfl (hR _ fmR_46_4) ?_
                refine w_iload rfl rfl ?_
                refine w_pushL rfl ?_
                refine w_lastv (j := 13) rfl rfl (by decide) (by unfold vp_in; decide) rfl ?_
                refine w_iincv (z := 14) rfl rfl (by decide) rfl ?_
                refine w_goto rfl ?_
                refine w_iload rfl rfl ?_
                refine w_pushI rfl ?_
                refine w_icmp_ge rfl (fun h => absurd h (by decide)) (fun _ => ?_)
                refine w_aload rfl rfl ?_
                refine w_getR (r := 47) rfl rfl (hR _ fmR_46_4) ?_
                refine w_iload rfl rfl ?_
                refine w_pushL rfl ?_
                refine w_lastv (j := 14) rfl rfl (by decide) (by unfold vp_in; decide) rfl ?_
                refine w_iincv (z := 15) rfl rfl (by decide) rfl ?_
                refine w_goto rfl ?_
                refine w_iload rfl rfl ?_
                refine w_pushI rfl ?_
                refine w_icmp_ge rfl (fun h => absurd h (by decide)) (fun _ => ?_)
                refine w_aload rfl rfl ?_
                refine w_getR (r := 47) rfl rfl (hR _ fmR_46_4) ?_
                refine w_iload rfl rfl ?_
                refine w_pushL rfl ?_
                refine w_lastv (j := 15) rfl rfl (by decide) (by unfold vp_in; decide) rfl ?_
                refine w_iincv (z := 16) rfl rfl (by decide) rfl ?_
                refine w_goto rfl ?_
                refine w_iload rfl rfl ?_
                refine w_pushI rfl ?_
                refine w_icmp_ge rfl (fun h => absurd h (by decide)) (fun _ => ?_)
                refine w_aload rfl rfl ?_
                refine w_getR (r := 47) rfl rfl (hR _ fmR_46_4) ?_
                refine w_iload rfl rfl ?_
                refine w_pushL rfl ?_
                refine w_lastv (j := 16) rfl rfl (by decide) (by unfold vp_in; decide) rfl ?_
                refine w_iincv (z := 17) rfl rfl (by decide) rfl ?_
                refine w_goto rfl ?_
                refine w_iload rfl rfl ?_
                refine w_pushI rfl ?_
                refine w_icmp_ge rfl (fun h => absurd h (by decide)) (fun _ => ?_)
                refine w_aload rfl rfl ?_
                refine w_getR (r := 47) rfl rfl (hR _ fmR_46_4) ?_
                refine w_iload rfl rfl ?_
                refine w_pushL rfl ?_
                refine w_lastv (j := 17) rfl rfl (by decide) (by unfold vp_in; decide) rfl ?_
                refine w_iincv (z := 18) rfl rfl (by decide) rfl ?_
                refine w_goto rfl ?_
                refine w_iload rfl rfl ?_
                refine w_pushI rfl ?_
                refine w_icmp_ge rfl (fun h => absurd h (by decide)) (fun _ => ?_)
                refine w_aload rfl rfl ?_
                refine w_getR (r := 47) rfl rfl (hR _ fmR_46_4) ?_
                refine w_iload rfl rfl ?_
                refine w_pushL rfl ?_
                refine w_lastv (j := 18) rfl rfl (by decide) (by unfold vp_in; decide) rfl ?_
                refine w_iincv (z := 19) rfl rfl (by decide) rfl ?_
                refine w_goto rfl ?_
                refine w_iload rfl rfl ?_
                refine w_pushI rfl ?_
                refine w_icmp_ge rfl (fun h => absurd h (by decide)) (fun _ => ?_)
                refine w_aload rfl rfl ?_
                refine w_getR (r := 47) rfl rfl (hR _ fmR_46_4) ?_
                refine w_iload rfl rfl ?_
                refine w_pushL rfl ?_
                refine w_lastv (j := 19) rfl rfl (by decide) (by unfold vp_in; decide) rfl ?_
                refine w_iincv (z := 20) rfl rfl (by decide) rfl ?_
                refine w_goto rfl ?_
                refine w_iload rfl rfl ?_
                refine w_pushI rfl ?_
                refine w_icmp_ge rfl (fun h => absurd h (by decide)) (fun _ => ?_)
                refine w_aload rfl rfl ?_
                refine w_getR (r := 47) rfl rfl (hR _ fmR_46_4) ?_
                refine w_iload rfl rfl ?_
                refine w_pushL rfl ?_
                refine w_lastv (j := 20) rfl rfl (by decide) (by unfold vp_in; decide) rfl ?_
                refine w_iincv (z := 21) rfl rfl (by decide) rfl ?_
                refine w_goto rfl ?_
                refine w_iload rfl rfl ?_
                refine w_pushI rfl ?_
                refine w_icmp_ge rfl (fun h => absurd h (by decide)) (fun _ => ?_)
                refine w_aload rfl rfl ?_
                refine w_getR (r := 47) rfl rfl (hR _ fmR_46_4) ?_
                refine w_iload rfl rfl ?_
                refine w_pushL rfl ?_
                refine w_lastv (j := 21) rfl rfl (by decide) (by unfold vp_in; decide) rfl ?_
                refine w_iincv (z := 22) rfl rfl (by decide) rfl ?_
                refine w_goto rfl ?_
                refine w_iload rfl rfl ?_
                refine w_pushI rfl ?_
                refine w_icmp_ge rfl (fun h => absurd h (by decide)) (fun _ => ?_)
                refine w_aload rfl rfl ?_
                refine w_getR (r := 47) rfl rfl (hR _ fmR_46_4) ?_
                refine w_iload rfl rfl ?_
                refine w_pushL rfl ?_
                refine w_lastv (j := 22) rfl rfl (by decide) (by unfold vp_in; decide) rfl ?_
                refine w_iincv (z := 23) rfl rfl (by decide) rfl ?_
                refine w_goto rfl ?_
                refine w_iload rfl rfl ?_
                refine w_pushI rfl ?_
                refine w_icmp_ge rfl (fun h => absurd h (by decide)) (fun _ => ?_)
                refine w_aload rfl rfl ?_
                refine w_getR (r := 47) rfl rfl (hR _ fmR_46_4) ?_
                refine w_iload rfl rfl ?_
                refine w_pushL rfl ?_
                refine w_lastv (j := 23) rfl rfl (by decide) (by unfold vp_in; decide) rfl ?_
                refine w_iincv (z := 24) rfl rfl (by decide) rfl ?_
                refine w_goto rfl ?_
                refine w_iload rfl rfl ?_
                refine w_pushI rfl ?_
                refine w_icmp_ge rfl (fun h => absurd h (by decide)) (fun _ => ?_)
                refine w_aload rfl rfl ?_
                refine w_getR (r := 47) rfl rfl (hR _ fmR_46_4) ?_
                refine w_iload rfl rfl ?_
                refine w_pushL rfl ?_
                refine w_lastv (j := 24) rfl rfl (by decide) (by unfold vp_in; decide) rfl ?_
                refine w_iincv (z := 25) rfl rfl (by decide) rfl ?_
                refine w_goto rfl ?_
                refine w_iload rfl rfl ?_
                refine w_pushI rfl ?_
                refine w_icmp_ge rfl (fun h => absurd h (by decide)) (fun _ => ?_)
                refine w_aload rfl rfl ?_
                refine w_getR (r := 47) rfl rfl (hR _ fmR_46_4) ?_
                refine w_iload rfl rfl ?_
                refine w_pushL rfl ?_
                refine w_lastv (j := 25) rfl rfl (by decide) (by unfold vp_in; decide) rfl ?_
                refine w_iincv (z := 26) rfl rfl (by decide) rfl ?_
                refine w_goto rfl ?_
                refine w_iload rfl rfl ?_
                refine w_pushI rfl ?_
                refine w_icmp_ge rfl (fun h => absurd h (by decide)) (fun _ => ?_)
                refine w_aload rfl rfl ?_
                refine w_getR (r := 47) rfl rfl (hR _ fmR_46_4) ?_
                refine w_iload rfl rfl ?_
                refine w_pushL rfl ?_
                refine w_lastv (j := 26) rfl rfl (by decide) (by unfold vp_in; decide) rfl ?_
                refine w_iincv (z := 27) rfl rfl (by decide) rfl ?_
                refine w_goto rfl ?_
                refine w_iload rfl rfl ?_
                refine w_pushI rfl ?_
                refine w_icmp_ge rfl (fun h => absurd h (by decide)) (fun _ => ?_)
                refine w_aload rfl rfl ?_
                refine w_getR (r := 47) rfl rfl (hR _ fmR_46_4) ?_
                refine w_iload rfl rfl ?_
                refine w_pushL rfl ?_
                refine w_lastv (j := 27) rfl rfl (by decide) (by unfold vp_in; decide) rfl ?_
                refine w_iincv (z := 28) rfl rfl (by decide) rfl ?_
                refine w_goto rfl ?_
                refine w_iload rfl rfl ?_
                refine w_pushI rfl ?_
                refine w_icmp_ge rfl (fun h => absurd h (by decide)) (fun _ => ?_)
                refine w_aload rfl rfl ?_
                refine w_getR (r := 47) rfl rfl (hR _ fmR_46_4) ?_
                refine w_iload rfl rfl ?_
                refine w_pushL rfl ?_
                refine w_lastv (j := 28) rfl rfl (by decide) (by unfold vp_in; decide) rfl ?_
                refine w_iincv (z := 29) rfl rfl (by decide) rfl ?_
                refine w_goto rfl ?_
                refine w_iload rfl rfl ?_
                refine w_pushI rfl ?_
                refine w_icmp_ge rfl (fun h => absurd h (by decide)) (fun _ => ?_)
                refine w_aload rfl rfl ?_
                refine w_getR (r := 47) rfl rfl (hR _ fmR_46_4) ?_
                refine w_iload rfl rfl ?_
                refine w_pushL rfl ?_
                refine w_lastv (j := 29) rfl rfl (by decide) (by unfold vp_in; decide) rfl ?_
                refine w_iincv (z := 30) rfl rfl (by decide) rfl ?_
                refine w_goto rfl ?_
                refine w_iload rfl rfl ?_
                refine w_pushI rfl ?_
                refine w_icmp_ge rfl (fun h => absurd h (by decide)) (fun _ => ?_)
                refine w_aload rfl rfl ?_
                refine w_getR (r := 47) rfl rfl (hR _ fmR_46_4) ?_
                refine w_iload rfl rfl ?_
                refine w_pushL rfl ?_
                refine w_lastv (j := 30) rfl rfl (by decide) (by unfold vp_in; decide) rfl ?_
                refine w_iincv (z := 31) rfl rfl (by decide) rfl ?_
                refine w_goto rfl ?_
                refine w_iload rfl rfl ?_
                refine w_pushI rfl ?_
                refine w_icmp_ge rfl (fun h => absurd h (by decide)) (fun _ => ?_)
                refine w_aload rfl rfl ?_
                refine w_getR (r := 47) rfl rfl (hR _ fmR_46_4) ?_
                refine w_iload rfl rfl ?_
                refine w_pushL rfl ?_
                refine w_lastv (j := 31) rfl rfl (by decide) (by unfold vp_in; decide) rfl ?_
                refine w_iincv (z := 32) rfl rfl (by decide) rfl ?_
                refine w_goto rfl ?_
                refine w_iload rfl rfl ?_
                refine w_pushI rfl ?_
                refine w_icmp_ge rfl (fun h => absurd h (by decide)) (fun _ => ?_)
                refine w_aload rfl rfl ?_
                refine w_getR (r := 47) rfl rfl (hR _ fmR_46_4) ?_
                refine w_iload rfl rfl ?_
                refine w_pushL rfl ?_
                refine w_lastv (j := 32) rfl rfl (by decide) (by unfold vp_in; decide) rfl ?_
                refine w_iincv (z := 33) rfl rfl (by decide) rfl ?_
                refine w_goto rfl ?_
                refine w_iload rfl rfl ?_
                refine w_pushI rfl ?_
                refine w_icmp_ge rfl (fun h => absurd h (by decide)) (fun _ => ?_)
                refine w_aload rfl rfl ?_
                refine w_getR (r := 47) rfl rfl (hR _ fmR_46_4) ?_
                refine w_iload rfl rfl ?_
                refine w_pushL rfl ?_
                refine w_lastv (j := 33) rfl rfl (by decide) (by unfold vp_in; decide) rfl ?_
                refine w_iincv (z := 34) rfl rfl (by decide) rfl ?_
                refine w_goto rfl ?_
                refine w_iload rfl rfl ?_
                refine w_pushI rfl ?_
                refine w_icmp_ge rfl (fun h => absurd h (by decide)) (fun _ => ?_)
                refine w_aload rfl rfl ?_
                refine w_getR (r := 47) rfl rfl (hR _ fmR_46_4) ?_
                refine w_iload rfl rfl ?_
                refine w_pushL rfl ?_
                refine w_lastv (j := 34) rfl rfl (by decide) (by unfold vp_in; decide) rfl ?_
                refine w_iincv (z := 35) rfl rfl (by decide) rfl ?_
                refine w_goto rfl ?_
                refine w_iload rfl rfl ?_
                refine w_pushI rfl ?_
                refine w_icmp_ge rfl (fun h => absurd h (by decide)) (fun _ => ?_)
                refine w_aload rfl rfl ?_
                refine w_getR (r := 47) rfl rfl (hR _ fmR_46_4) ?_
                refine w_iload rfl rfl ?_
                refine w_pushL rfl ?_
                refine w_lastv (j := 35) rfl rfl (by decide) (by unfold vp_in; decide) rfl ?_
                refine w_iincv (z := 36) rfl rfl (by decide) rfl ?_
                refine w_goto rfl ?_
                refine w_iload rfl rfl ?_
                refine w_pushI rfl ?_
                refine w_icmp_ge rfl (fun h => absurd h (by decide)) (fun _ => ?_)
                refine w_aload rfl rfl ?_
                refine w_getR (r := 47) rfl rfl (hR _ fmR_46_4) ?_
                refine w_iload rfl rfl ?_
                refine w_pushL rfl ?_
                refine w_lastv (j := 36) rfl rfl (by decide) (by unfold vp_in; decide) rfl ?_
                refine w_iincv (z := 37) rfl rfl (by decide) rfl ?_
                refine w_goto rfl ?_
                refine w_iload rfl rfl ?_
                refine w_pushI rfl ?_
                refine w_icmp_ge rfl (fun h => absurd h (by decide)) (fun _ => ?_)
                refine w_aload rfl rfl ?_
                refine w_getR (r := 47) rfl rfl (hR _ fmR_46_4) ?_
                refine w_iload rfl rfl ?_
                refine w_pushL rfl ?_
                refine w_lastv (j := 37) rfl rfl (by decide) (by unfold vp_in; decide) rfl ?_
                refine w_iincv (z := 38) rfl rfl (by decide) rfl ?_
                refine w_goto rfl ?_
                refine w_iload rfl rfl ?_
                refine w_pushI rfl ?_
                refine w_icmp_ge rfl (fun h => absurd h (by decide)) (fun _ => ?_)
                refine w_aload rfl rfl ?_
                refine w_getR (r := 47) rfl rfl (hR _ fmR_46_4) ?_
                refine w_iload rfl rfl ?_
                refine w_pushL rfl ?_
                refine w_lastv (j := 38) rfl rfl (by decide) (by unfold vp_in; decide) rfl ?_
                refine w_iincv (z := 39) rfl rfl (by decide) rfl ?_
                refine w_goto rfl ?_
                refine w_iload rfl rfl ?_
                refine w_pushI rfl ?_
                refine w_icmp_ge rfl (fun h => absurd h (by decide)) (fun _ => ?_)
                refine w_aload rfl rfl ?_
                refine w_getR (r := 47) rfl rfl (hR _ fmR_46_4) ?_
                refine w_iload rfl rfl ?_
                refine w_pushL rfl ?_
                refine w_lastv (j := 39) rfl rfl (by decide) (by unfold vp_in; decide) rfl ?_
                refine w_iincv (z := 40) rfl rfl (by decide) rfl ?_
                refine w_goto rfl ?_
                refine w_iload rfl rfl ?_
                refine w_pushI rfl ?_
                refine w_icmp_ge rfl (fun h => absurd h (by decide)) (fun _ => ?_)
                refine w_aload rfl rfl ?_
                refine w_getR (r := 47) rfl rfl (hR _ fmR_46_4) ?_
                refine w_iload rfl rfl ?_
                refine w_pushL rfl ?_
                refine w_lastv (j := 40) rfl rfl (by decide) (by unfold vp_in; decide) rfl ?_
                refine w_iincv (z := 41) rfl rfl (by decide) rfl ?_
                refine w_goto rfl ?_
                refine w_iload rfl rfl ?_
                refine w_pushI rfl ?_
                refine w_icmp_ge rfl (fun h => absurd h (by decide)) (fun _ => ?_)
                refine w_aload rfl rfl ?_
                refine w_getR (r := 47) rfl rfl (hR _ fmR_46_4) ?_
                refine w_iload rfl rfl ?_
                refine w_pushL rfl ?_
                refine w_lastv (j := 41) rfl rfl (by decide) (by unfold vp_in; decide) rfl ?_
                refine w_iincv (z := 42) rfl rfl (by decide) rfl ?_
                refine w_goto rfl ?_
                refine w_iload rfl rfl ?_
                refine w_pushI rfl ?_
                refine w_icmp_ge rfl (fun h => absurd h (by decide)) (fun _ => ?_)
                refine w_aload rfl rfl ?_
                refine w_getR (r := 47) rfl rfl (hR _ fmR_46_4) ?_
                refine w_iload rfl rfl ?_
                refine w_pushL rfl ?_
                refine w_lastv (j := 42) rfl rfl (by decide) (by unfold vp_in; decide) rfl ?_
                refine w_iincv (z := 43) rfl rfl (by decide) rfl ?_
                refine w_goto rfl ?_
                refine w_iload rfl rfl ?_
                refine w_pushI rfl ?_
                refine w_icmp_ge rfl (fun h => absurd h (by decide)) (fun _ => ?_)
                refine w_aload rfl rfl ?_
                refine w_getR (r := 47) rfl rfl (hR _ fmR_46_4) ?_
                refine w_iload rfl rfl ?_
                refine w_pushL rfl ?_
                refine w_lastv (j := 43) rfl rfl (by decide) (by unfold vp_in; decide) rfl ?_
                refine w_iincv (z := 44) rfl rfl (by decide) rfl ?_
                refine w_goto rfl ?_
                refine w_iload rfl rfl ?_
                refine w_pushI rfl ?_
                refine w_icmp_ge rfl (fun h => absurd h (by decide)) (fun _ => ?_)
                refine w_aload rfl rfl ?_
                refine w_getR (r := 47) rfl rfl (hR _ fmR_46_4) ?_
                refine w_iload rfl rfl ?_
                refine w_pushL rfl ?_
                refine w_lastv (j := 44) rfl rfl (by decide) (by unfold vp_in; decide) rfl ?_
                refine w_iincv (z := 45) rfl rfl (by decide) rfl ?_
                refine w_goto rfl ?_
                refine w_iload rfl rfl ?_
                refine w_pushI rfl ?_
                refine w_icmp_ge rfl (fun h => absurd h (by decide)) (fun _ => ?_)
                refine w_aload rfl rfl ?_
                refine w_getR (r := 47) rfl rfl (hR _ fmR_46_4) ?_
                refine w_iload rfl rfl ?_
                refine w_pushL rfl ?_
                refine w_lastv (j := 45) rfl rfl (by decide) (by unfold vp_in; decide) rfl ?_
                refine w_iincv (z := 46) rfl rfl (by decide) rfl ?_
                refine w_goto rfl ?_
                refine w_iload rfl rfl ?_
                refine w_pushI rfl ?_
                refine w_icmp_ge rfl (fun h => absurd h (by decide)) (fun _ => ?_)
                refine w_aload rfl rfl ?_
                refine w_getR (r := 47) rfl rfl (hR _ fmR_46_4) ?_
                refine w_iload rfl rfl ?_
                refine w_pushL rfl ?_
                refine w_lastv (j := 46) rfl rfl (by decide) (by unfold vp_in; decide) rfl ?_
                refine w_iincv (z := 47) rfl rfl (by decide) rfl ?_
                refine w_goto rfl ?_
                refine w_iload rfl rfl ?_
                refine w_pushI rfl ?_
                refine w_icmp_ge rfl (fun h => absurd h (by decide)) (fun _ => ?_)
                refine w_aload rfl rfl ?_
                refine w_getR (r := 47) rfl rfl (hR _ fmR_46_4) ?_
                refine w_iload rfl rfl ?_
                refine w_pushL rfl ?_
                refine w_lastv (j := 47) rfl rfl (by decide) (by unfold vp_in; decide) rfl ?_
                refine w_iincv (z := 48) rfl rfl (by decide) rfl ?_
                refine w_goto rfl ?_
                refine w_iload rfl rfl ?_
                refine w_pushI rfl ?_
                refine w_icmp_ge rfl (fun h => absurd h (by decide)) (fun _ => ?_)
                refine w_aload rfl rfl ?_
                refine w_getR (r := 47) rfl rfl (hR _ fmR_46_4) ?_
                refine w_iload rfl rfl ?_
                refine w_pushL rfl ?_
                refine w_lastv (j := 48) rfl rfl (by decide) (by unfold vp_in; decide) rfl ?_
                refine w_iincv (z := 49) rfl rfl (by decide) rfl ?_
                refine w_goto rfl ?_
                refine w_iload rfl rfl ?_
                refine w_pushI rfl ?_
                refine w_icmp_ge rfl (fun h => absurd h (by decide)) (fun _ => ?_)
                refine w_aload rfl rfl ?_
                refine w_getR (r := 47) rfl rfl (hR _ fmR_46_4) ?_
                refine w_iload rfl rfl ?_
                refine w_pushL rfl ?_
                refine w_lastv (j := 49) rfl rfl (by decide) (by unfold vp_in; decide) rfl ?_
                refine w_iincv (z := 50) rfl rfl (by decide) rfl ?_
                refine w_goto rfl ?_
                refine w_iload rfl rfl ?_
                refine w_pushI rfl ?_
                refine w_icmp_ge rfl (fun h => absurd h (by decide)) (fun _ => ?_)
                refine w_aload rfl rfl ?_
                refine w_getR (r := 47) rfl rfl (hR _ fmR_46_4) ?_
                refine w_iload rfl rfl ?_
                refine w_pushL rfl ?_
                refine w_lastv (j := 50) rfl rfl (by decide) (by unfold vp_in; decide) rfl ?_
                refine w_iincv (z := 51) rfl rfl (by decide) rfl ?_
                refine w_goto rfl ?_
                refine w_iload rfl rfl ?_
                refine w_pushI rfl ?_
                refine w_icmp_ge rfl (fun h => absurd h (by decide)) (fun _ => ?_)
                refine w_aload rfl rfl ?_
                refine w_getR (r := 47) rfl rfl (hR _ fmR_46_4) ?_
                refine w_iload rfl rfl ?_
                refine w_pushL rfl ?_
                refine w_lastv (j := 51) rfl rfl (by decide) (by unfold vp_in; decide) rfl ?_
                refine w_iincv (z := 52) rfl rfl (by decide) rfl ?_
                refine w_goto rfl ?_
                refine w_iload rfl rfl ?_
                refine w_pushI rfl ?_
                refine w_icmp_ge rfl (fun h => absurd h (by decide)) (fun _ => ?_)
                refine w_aload rfl rfl ?_
                refine w_getR (r := 47) rfl rfl (hR _ fmR_46_4) ?_
                refine w_iload rfl rfl ?_
                refine w_pushL rfl ?_
                refine w_lastv (j := 52) rfl rfl (by decide) (by unfold vp_in; decide) rfl ?_
                refine w_iincv (z := 53) rfl rfl (by decide) rfl ?_
                refine w_goto rfl ?_
                refine w_iload rfl rfl ?_
                refine w_pushI rfl ?_
                refine w_icmp_ge rfl (fun h => absurd h (by decide)) (fun _ => ?_)
                refine w_aload rfl rfl ?_
                refine w_getR (r := 47) rfl rfl (hR _ fmR_46_4) ?_
                refine w_iload rfl rfl ?_
                refine w_pushL rfl ?_
                refine w_lastv (j := 53) rfl rfl (by decide) (by unfold vp_in; decide) rfl ?_
                refine w_iincv (z := 54) rfl rfl (by decide) rfl ?_
                refine w_goto rfl ?_
                refine w_iload rfl rfl ?_
                refine w_pushI rfl ?_
                refine w_icmp_ge rfl (fun h => absurd h (by decide)) (fun _ => ?_)
                refine w_aload rfl rfl ?_
                refine w_getR (r := 47) rfl rfl (hR _ fmR_46_4) ?_
                refine w_iload rfl rfl ?_
                refine w_pushL rfl ?_
                refine w_lastv (j := 54) rfl rfl (by decide) (by unfold vp_in; decide) rfl ?_
                refine w_iincv (z := 55) rfl rfl (by decide) rfl ?_
                refine w_goto rfl ?_
                refine w_iload rfl rfl ?_
                refine w_pushI rfl ?_
                refine w_icmp_ge rfl (fun h => absurd h (by decide)) (fun _ => ?_)
                refine w_aload rfl rfl ?_
                refine w_getR (r := 47) rfl rfl (hR _ fmR_46_4) ?_
                refine w_iload rfl rfl ?_
                refine w_pushL rfl ?_
                refine w_lastv (j := 55) rfl rfl (by decide) (by unfold vp_in; decide) rfl ?_
                refine w_iincv (z := 56) rfl rfl (by decide) rfl ?_
                refine w_goto rfl ?_
                refine w_iload rfl rfl ?_
                refine w_pushI rfl ?_
                refine w_icmp_ge rfl (fun h => absurd h (by decide)) (fun _ => ?_)
                refine w_aload rfl rfl ?_
                refine w_getR (r := 47) rfl rfl (hR _ fmR_46_4) ?_
                refine w_iload rfl rfl ?_
                refine w_pushL rfl ?_
                refine w_lastv (j := 56) rfl rfl (by decide) (by unfold vp_in; decide) rfl ?_
                refine w_iincv (z := 57) rfl rfl (by decide) rfl ?_
                refine w_goto rfl ?_
                refine w_iload rfl rfl ?_
                refine w_pushI rfl ?_
                refine w_icmp_ge rfl (fun h => absurd h (by decide)) (fun _ => ?_)
                refine w_aload rfl rfl ?_
                refine w_getR (r := 47) rfl rfl (hR _ fmR_46_4) ?_
                refine w_iload rfl rfl ?_
                refine w_pushL rfl ?_
                refine w_lastv (j := 57) rfl rfl (by decide) (by unfold vp_in; decide) rfl ?_
                refine w_iincv (z := 58) rfl rfl (by decide) rfl ?_
                refine w_goto rfl ?_
                refine w_iload rfl rfl ?_
                refine w_pushI rfl ?_
                refine w_icmp_ge rfl (fun h => absurd h (by decide)) (fun _ => ?_)
                refine w_aload rfl rfl ?_
                refine w_getR (r := 47) rfl rfl (hR _ fmR_46_4) ?_
                refine w_iload rfl rfl ?_
                refine w_pushL rfl ?_
                refine w_lastv (j := 58) rfl rfl (by decide) (by unfold vp_in; decide) rfl ?_
                refine w_iincv (z := 59) rfl rfl (by decide) rfl ?_
                refine w_goto rfl ?_
                refine w_iload rfl rfl ?_
                refine w_pushI rfl ?_
                refine w_icmp_ge rfl (fun h => absurd h (by decide)) (fun _ => ?_)
                refine w_aload rfl rfl ?_
                refine w_getR (r := 47) rfl rfl (hR _ fmR_46_4) ?_
                refine w_iload rfl rfl ?_
                refine w_pushL rfl ?_
                refine w_lastv (j := 59) rfl rfl (by decide) (by unfold vp_in; decide) rfl ?_
                refine w_iincv (z := 60) rfl rfl (by decide) rfl ?_
                refine w_goto rfl ?_
                refine w_iload rfl rfl ?_
                refine w_pushI rfl ?_
                refine w_icmp_ge rfl (fun _ => ?_) (fun h => absurd (by decide) h)
                refine w_vret rfl rfl ?_
                show gW _ _ _ _ _ _ _ _ _ _
                refine w_pushI rfl ?_
                refine w_iret rfl (Or.inl rfl) ?_
                exact ⟨congrArg (fun v => some (Value.int v)) (show (1 : Int32) = f1_row (4) b c by have e0 : (4 : Int32).toInt = 4 := rfl; exact ite_eq_of (fun _ => ite_eq_of (fun hc => absurd hc (by omega)) (fun _ => rfl)) (fun hc => absurd (by omega) hc)), rfl, fun x hx => (gU_o (by omega)).trans ((gU_o (by omega)).trans (gU_o (by omega))), fun x hx => (gU_o (by omega)).trans ((gU_o (by omega)).trans ((gU_o (by omega)).trans ((gU_o (by omega)).trans ((gU_o (by omega)).trans ((gU_o (by omega)).trans ((gU_o (by omega)).trans ((gU_o (by omega)).trans ((gU_o (by omega)).trans ((gU_o (by omega)).trans ((gU_o (by omega)).trans ((gU_o (by omega)).trans ((gU_o (by omega)).trans ((gU_o (by omega)).trans ((gU_o (by omega)).trans ((gU_o (by omega)).trans ((gU_o (by omega)).trans ((gU_o (by omega)).trans ((gU_o (by omega)).trans ((gU_o (by omega)).trans ((gU_o (by omega)).trans ((gU_o (by omega)).trans ((gU_o (by omega)).trans ((gU_o (by omega)).trans ((gU_o (by omega)).trans ((gU_o (by omega)).trans ((gU_o (by omega)).trans ((gU_o (by omega)).trans ((gU_o (by omega)).trans ((gU_o (by omega)).trans ((gU_o (by omega)).trans ((gU_o (by omega)).trans ((gU_o (by omega)).trans ((gU_o (by omega)).trans ((gU_o (by omega)).trans ((gU_o (by omega)).trans ((gU_o (by omega)).trans ((gU_o (by omega)).trans ((gU_o (by omega)).trans ((gU_o (by omega)).trans ((gU_o (by omega)).trans ((gU_o (by omega)).trans ((gU_o (by omega)).trans ((gU_o (by omega)).trans ((gU_o (by omega)).trans ((gU_o (by omega)).trans ((gU_o (by omega)).trans ((gU_o (by omega)).trans ((gU_o (by omega)).trans ((gU_o (by omega)).trans ((gU_o (by omega)).trans ((gU_o (by omega)).trans ((gU_o (by omega)).trans ((gU_o (by omega)).trans ((gU_o (by omega)).trans ((gU_o (by omega)).trans ((gU_o (by omega)).trans ((gU_o (by omega)).trans ((gU_o (by omega)).trans (gU_o (by omega)))))))))))))))))))))))))))))))))))))))))))))))))))))))))))), fun x hx => rfl⟩
              · obtain rfl : a = 5 := i_is hs7 (by decide)
                refine w_aaldv (j := 5) (r := 48) rfl rfl (by decide) (by unfold vp_in; decide) (hR _ fmR_37_5) ?_
                refine w_iload rfl rfl ?_
                refine w_iload rfl rfl ?_
                refine w_callVi (As := [_, _]) (le := [some _, some _, some _, none]) rfl rfl rfl (Nat.le_of_ble_eq_true rfl) (Nat.le_of_ble_eq_true rfl) rfl ?_
                refine w_aload rfl rfl ?_
                refine w_pushI rfl ?_
                refine w_putI rfl rfl ?_
                refine w_aload rfl rfl ?_
                refine w_iload rfl rfl ?_
                refine w_putI rfl rfl ?_
                refine w_aload rfl rfl ?_
                refine w_iload rfl rfl ?_
                refine w_putI rfl rfl ?_
                refine w_pushI rfl ?_
                refine w_istore rfl rfl ?_
                refine w_iload rfl rfl ?_
                refine w_pushI rfl ?_
                refine w_icmp_ge rfl (fun h => absurd h (by decide)) (fun _ => ?_)
                refine w_aload rfl rfl ?_
                refine w_getR (r := 49) rfl rfl (hR _ fmR_48_4) ?_
                refine w_iload rfl rfl ?_
                refine w_pushL rfl ?_
                refine w_lastv (j := 0) rfl rfl (by decide) (by unfold vp_in; decide) rfl ?_
                refine w_iincv (z := 1) rfl rfl (by decide) rfl ?_
                refine w_goto rfl ?_
                refine w_iload rfl rfl ?_
                refine w_pushI rfl ?_
                refine w_icmp_ge rfl (fun h => absurd h (by decide)) (fun _ => ?_)
                refine w_aload rfl rfl ?_
                refine w_getR (r := 49) rfl rfl (hR _ fmR_48_4) ?_
                refine w_iload rfl rfl ?_
                refine w_pushL rfl ?_
                refine w_lastv (j := 1) rfl rfl (by decide) (by unfold vp_in; decide) rfl ?_
                refine w_iincv (z := 2) rfl rfl (by decide) rfl ?_
                refine w_goto rfl ?_
                refine w_iload rfl rfl ?_
                refine w_pushI rfl ?_
                refine w_icmp_ge rfl (fun h => absurd h (by decide)) (fun _ => ?_)
                refine w_aload rfl rfl ?_
                refine w_getR (r := 49) rfl rfl (hR _ fmR_48_4) ?_
                refine w_iload rfl rfl ?_
                refine w_pushL rfl ?_
                refine w_lastv (j := 2) rfl rfl (by decide) (by unfold vp_in; decide) rfl ?_
                refine w_iincv (z := 3) rfl rfl (by decide) rfl ?_
                refine w_goto rfl ?_
                refine w_iload rfl rfl ?_
                refine w_pushI rfl ?_
                refine w_icmp_ge rfl (fun h => absurd h (by decide)) (fun _ => ?_)
                refine w_aload rfl rfl ?_
                refine w_getR (r := 49) rfl rfl (hR _ fmR_48_4) ?_
                refine w_iload rfl rfl ?_
                refine w_pushL rfl ?_
                refine w_lastv (j := 3) rfl rfl (by decide) (by unfold vp_in; decide) rfl ?_
                refine w_iincv (z := 4) rfl rfl (by decide) rfl ?_
                refine w_goto rfl ?_
                refine w_iload rfl rfl ?_
                refine w_pushI rfl ?_
                refine w_icmp_ge rfl (fun h => absurd h (by decide)) (fun _ => ?_)
                refine w_aload rfl rfl ?_
                refine w_getR (r := 49) rfl rfl (hR _ fmR_48_4) ?_
                refine w_iload rfl rfl ?_
                refine w_pushL rfl ?_
                refine w_lastv (j := 4) rfl rfl (by decide) (by unfold vp_in; decide) rfl ?_
                refine w_iincv (z := 5) rfl rfl (by decide) rfl ?_
                refine w_goto rfl ?_
                refine w_iload rfl rfl ?_
                refine w_pushI rfl ?_
                refine w_icmp_ge rfl (fun h => absurd h (by decide)) (fun _ => ?_)
                refine w_aload rfl rfl ?_
                refine w_getR (r := 49) rfl rfl (hR _ fmR_48_4) ?_
                refine w_iload rfl rfl ?_
                refine w_pushL rfl ?_
                refine w_lastv (j := 5) rfl rfl (by decide) (by unfold vp_in; decide) rfl ?_
                refine w_iincv (z := 6) rfl rfl (by decide) rfl ?_
                refine w_goto rfl ?_
                refine w_iload rfl rfl ?_
                refine w_pushI rfl ?_
                refine w_icmp_ge rfl (fun h => absurd h (by decide)) (fun _ => ?_)
                refine w_aload rfl rfl ?_
                refine w_getR (r := 49) rfl rfl (hR _ fmR_48_4) ?_
                refine w_iload rfl rfl ?_
                refine w_pushL rfl ?_
                refine w_lastv (j := 6) rfl rfl (by decide) (by unfold vp_in; decide) rfl ?_
                refine w_iincv (z := 7) rfl rfl (by decide) rfl ?_
                refine w_goto rfl ?_
                refine w_iload rfl rfl ?_
                refine w_pushI rfl ?_
                refine w_icmp_ge rfl (fun h => absurd h (by decide)) (fun _ => ?_)
                refine w_aload rfl rfl ?_
                refine w_getR (r := 49) rfl rfl (hR _ fmR_48_4) ?_
                refine w_iload rfl rfl ?_
                refine w_pushL rfl ?_
                refine w_lastv (j := 7) rfl rfl (by decide) (by unfold vp_in; decide) rfl ?_
                refine w_iincv (z := 8) rfl rfl (by decide) rfl ?_
                refine w_goto rfl ?_
                refine w_iload rfl rfl ?_
                refine w_pushI rfl ?_
                refine w_icmp_ge rfl (fun h => absurd h (by decide)) (fun _ => ?_)
                refine w_aload rfl rfl ?_
                refine w_getR (r := 49) rfl rfl (hR _ fmR_48_4) ?_
                refine w_iload rfl rfl ?_
                refine w_pushL rfl ?_
                refine w_lastv (j := 8) rfl rfl (by decide) (by unfold vp_in; decide) rfl ?_
                refine w_iincv (z := 9) rfl rfl (by decide) rfl ?_
                refine w_goto rfl ?_
                refine w_iload rfl rfl ?_
                refine w_pushI rfl ?_
                refine w_icmp_ge rfl (fun h => absurd h (by decide)) (fun _ => ?_)
                refine w_aload rfl rfl ?_
                refine w_getR (r := 49) rfl rfl (hR _ fmR_48_4) ?_
                refine w_iload rfl rfl ?_
                refine w_pushL rfl ?_
                refine w_lastv (j := 9) rfl rfl (by decide) (by unfold vp_in; decide) rfl ?_
                refine w_iincv (z := 10) rfl rfl (by decide) rfl ?_
                refine w_goto rfl ?_
                refine w_iload rfl rfl ?_
                refine w_pushI rfl ?_
                refine w_icmp_ge rfl (fun h => absurd h (by decide)) (fun _ => ?_)
                refine w_aload rfl rfl ?_
                refine w_getR (r := 49) rfl rfl (hR _ fmR_48_4) ?_
                refine w_iload rfl rfl ?_
                refine w_pushL rfl ?_
                refine w_lastv (j := 10) rfl rfl (by decide) (by unfold vp_in; decide) rfl ?_
                refine w_iincv (z := 11) rfl rfl (by decide) rfl ?_
                refine w_goto rfl ?_
                refine w_iload rfl rfl ?_
                refine w_pushI rfl ?_
                refine w_icmp_ge rfl (fun h => absurd h (by decide)) (fun _ => ?_)
                refine w_aload rfl rfl ?_
                refine w_getR (r := 49) rfl rfl (hR _ fmR_48_4) ?_
                refine w_iload rfl rfl ?_
                refine w_pushL rfl ?_
                refine w_lastv (j := 11) rfl rfl (by decide) (by unfold vp_in; decide) rfl ?_
                refine w_iincv (z := 12) rfl rfl (by decide) rfl ?_
                refine w_goto rfl ?_
                refine w_iload rfl rfl ?_
                refine w_pushI rfl ?_
                refine w_icmp_ge rfl (fun h => absurd h (by decide)) (fun _ => ?_)
                refine w_aload rfl rfl ?_
                refine w_getR (r := 49) rfl rfl (hR _ fmR_48_4) ?_
                refine w_iload rfl rfl ?_
                refine w_pushL rfl ?_
                refine w_lastv (j := 12) rfl rfl (by decide) (by unfold vp_in; decide) rfl ?_
                refine w_iincv (z := 13) rfl rfl (by decide) rfl ?_
                refine w_goto rfl ?_
                refine w_iload rfl rfl ?_
                refine w_pushI rfl ?_
                refine w_icmp_ge rfl (fun h => absurd h (by decide)) (fun _ => ?_)
                refine w_aload rfl rfl ?_
                refine w_getR (r := 49) rfl rfl (hR _ fmR_48_4) ?_
                refine w_iload rfl rfl ?_
                refine w_pushL rfl ?_
                refine w_lastv (j := 13) rfl rfl (by decide) (by unfold vp_in; decide) rfl ?_
                refine w_iincv (z := 14) rfl rfl (by decide) rfl ?_
                refine w_goto rfl ?_
                refine w_iload rfl rfl ?_
                refine w_pushI rfl ?_
                refine w_icmp_ge rfl (fun h => absurd h (by decide)) (fun _ => ?_)
                refine w_aload rfl rfl ?_
                refine w_getR (r := 49) rfl rfl (hR _ fmR_48_4) ?_
                refine w_iload rfl rfl ?_
                refine w_pushL rfl ?_
                refine w_lastv (j := 14) rfl rfl (by decide) (by unfold vp_in; decide) rfl ?_
                refine w_iincv (z := 15) rfl rfl (by decide) rfl ?_
                refine w_goto rfl ?_
                refine w_iload rfl rfl ?_
                refine w_pushI rfl ?_
                refine w_icmp_ge rfl (fun h => absurd h (by decide)) (fun _ => ?_)
                refine w_aload rfl rfl ?_
                refine w_getR (r := 49) rfl rfl (hR _ fmR_48_4) ?_
                refine w_iload rfl rfl ?_
                refine w_pushL rfl ?_
                refine w_lastv (j := 15) rfl rfl (by decide) (by unfold vp_in; decide) rfl ?_
                refine w_iincv (z := 16) rfl rfl (by decide) rfl ?_
                refine w_goto rfl ?_
                refine w_iload rfl rfl ?_
                refine w_pushI rfl ?_
                refine w_icmp_ge rfl (fun h => absurd h (by decide)) (fun _ => ?_)
                refine w_aload rfl rfl ?_
                refine w_getR (r := 49) rfl rfl (hR _ fmR_48_4) ?_
                refine w_iload rfl rfl ?_
                refine w_pushL rfl ?_
                refine w_lastv (j := 16) rfl rfl (by decide) (by unfold vp_in; decide) rfl ?_
                refine w_iincv (z := 17) rfl rfl (by decide) rfl ?_
                refine w_goto rfl ?_
                refine w_iload rfl rfl ?_
                refine w_pushI rfl ?_
                refine w_icmp_ge rfl (fun h => absurd h (by decide)) (fun _ => ?_)
                refine w_aload rfl rfl ?_
                refine w_getR (r := 49) rfl rfl (hR _ fmR_48_4) ?_
                refine w_iload rfl rfl ?_
                refine w_pushL rfl ?_
                refine w_lastv (j := 17) rfl rfl (by decide) (by unfold vp_in; decide) rfl ?_
                refine w_iincv (z := 18) rfl rfl (by decide) rfl ?_
                refine w_goto rfl ?_
                refine w_iload rfl rfl ?_
                refine w_pushI rfl ?_
                refine w_icmp_ge rfl (fun h => absurd h (by decide)) (fun _ => ?_)
                refine w_aload rfl rfl ?_
                refine w_getR (r := 49) rfl rfl (hR _ fmR_48_4) ?_
                refine w_iload rfl rfl ?_
                refine w_pushL rfl ?_
                refine w_lastv (j := 18) rfl rfl (by decide) (by unfold vp_in; decide) rfl ?_
                refine w_iincv (z := 19) rfl rfl (by decide) rfl ?_
                refine w_goto rfl ?_
                refine w_iload rfl rfl ?_
                refine w_pushI rfl ?_
                refine w_icmp_ge rfl (fun h => absurd h (by decide)) (fun _ => ?_)
                refine w_aload rfl rfl ?_
                refine w_getR (r := 49) rfl rfl (hR _ fmR_48_4) ?_
                refine w_iload rfl rfl ?_
                refine w_pushL rfl ?_
                refine w_lastv (j := 19) rfl rfl (by decide) (by unfold vp_in; decide) rfl ?_
                refine w_iincv (z := 20) rfl rfl (by decide) rfl ?_
                refine w_goto rfl ?_
                refine w_iload rfl rfl ?_
                refine w_pushI rfl ?_
                refine w_icmp_ge rfl (fun h => absurd h (by decide)) (fun _ => ?_)
                refine w_aload rfl rfl ?_
                refine w_getR (r := 49) rfl rfl (hR _ fmR_48_4) ?_
                refine w_iload rfl rfl ?_
                refine w_pushL rfl ?_
                refine w_lastv (j := 20) rfl rfl (by decide) (by unfold vp_in; decide) rfl ?_
                refine w_iincv (z := 21) rfl rfl (by decide) rfl ?_
                refine w_goto rfl ?_
                refine w_iload rfl rfl ?_
                refine w_pushI rfl ?_
                refine w_icmp_ge rfl (fun h => absurd h (by decide)) (fun _ => ?_)
                refine w_aload rfl rfl ?_
                refine w_getR (r := 49) rfl rfl (hR _ fmR_48_4) ?_
                refine w_iload rfl rfl ?_
                refine w_pushL rfl ?_
                refine w_lastv (j := 21) rfl rfl (by decide) (by unfold vp_in; decide) rfl ?_
                refine w_iincv (z := 22) rfl rfl (by decide) rfl ?_
                refine w_goto rfl ?_
                refine w_iload rfl rfl ?_
                refine w_pushI rfl ?_
                refine w_icmp_ge rfl (fun h => absurd h (by decide)) (fun _ => ?_)
                refine w_aload rfl rfl ?_
                refine w_getR (r := 49) rfl rfl (hR _ fmR_48_4) ?_
                refine w_iload rfl rfl ?_
                refine w_pushL rfl ?_
                refine w_lastv (j := 22) rfl rfl (by decide) (by unfold vp_in; decide) rfl ?_
                refine w_iincv (z := 23) rfl rfl (by decide) rfl ?_
                refine w_goto rfl ?_
                refine w_iload rfl rfl ?_
                refine w_pushI rfl ?_
                refine w_icmp_ge rfl (fun h => absurd h (by decide)) (fun _ => ?_)
                refine w_aload rfl rfl ?_
                refine w_getR (r := 49) rfl rfl (hR _ fmR_48_4) ?_
                refine w_iload rfl rfl ?_
                refine w_pushL rfl ?_
                refine w_lastv (j := 23) rfl rfl (by decide) (by unfold vp_in; decide) rfl ?_
                refine w_iincv (z := 24) rfl rfl (by decide) rfl ?_
                refine w_goto rfl ?_
                refine w_iload rfl rfl ?_
                refine w_pushI rfl ?_
                refine w_icmp_ge rfl (fun h => absurd h (by decide)) (fun _ => ?_)
                refine w_aload rfl rfl ?_
                refine w_getR (r := 49) rfl rfl (hR _ fmR_48_4) ?_
                refine w_iload rfl rfl ?_
                refine w_pushL rfl ?_
                refine w_lastv (j := 24) rfl rfl (by decide) (by unfold vp_in; decide) rfl ?_
                refine w_iincv (z := 25) rfl rfl (by decide) rfl ?_
                refine w_goto rfl ?_
                refine w_iload rfl rfl ?_
                refine w_pushI rfl ?_
                refine w_icmp_ge rfl (fun h => absurd h (by decide)) (fun _ => ?_)
                refine w_aload rfl rfl ?_
                refine w_getR (r := 49) rfl rfl (hR _ fmR_48_4) ?_
                refine w_iload rfl rfl ?_
                refine w_pushL rfl ?_
                refine w_lastv (j := 25) rfl rfl (by decide) (by unfold vp_in; decide) rfl ?_
                refine w_iincv (z := 26) rfl rfl (by decide) rfl ?_
                refine w_goto rfl ?_
                refine w_iload rfl rfl ?_
                refine w_pushI rfl ?_
                refine w_icmp_ge rfl (fun h => absurd h (by decide)) (fun _ => ?_)
                refine w_aload rfl rfl ?_
                refine w_getR (r := 49) rfl rfl (hR _ fmR_48_4) ?_
                refine w_iload rfl rfl ?_
                refine w_pushL rfl ?_
                refine w_lastv (j := 26) rfl rfl (by decide) (by unfold vp_in; decide) rfl ?_
                refine w_iincv (z := 27) rfl rfl (by decide) rfl ?_
                refine w_goto rfl ?_
                refine w_iload rfl rfl ?_
                refine w_pushI rfl ?_
                refine w_icmp_ge rfl (fun h => absurd h (by decide)) (fun _ => ?_)
                refine w_aload rfl rfl ?_
                refine w_getR (r := 49) rfl rfl (hR _ fmR_48_4) ?_
                refine w_iload rfl rfl ?_
                refine w_pushL rfl ?_
                refine w_lastv (j := 27) rfl rfl (by decide) (by unfold vp_in; decide) rfl ?_
                refine w_iincv (z := 28) rfl rfl (by decide) rfl ?_
                refine w_goto rfl ?_
                refine w_iload rfl rfl ?_
                refine w_pushI rfl ?_
                refine w_icmp_ge rfl (fun h => absurd h (by decide)) (fun _ => ?_)
                refine w_aload rfl rfl ?_
                refine w_getR (r := 49) rfl rfl (hR _ fmR_48_4) ?_
                refine w_iload rfl rfl ?_
                refine w_pushL rfl ?_
                refine w_lastv (j := 28) rfl rfl (by decide) (by unfold vp_in; decide) rfl ?_
                refine w_iincv (z := 29) rfl rfl (by decide) rfl ?_
                refine w_goto rfl ?_
                refine w_iload rfl rfl ?_
                refine w_pushI rfl ?_
                refine w_icmp_ge rfl (fun h => absurd h (by decide)) (fun _ => ?_)
                refine w_aload rfl rfl ?_
                refine w_getR (r := 49) rfl rfl (hR _ fmR_48_4) ?_
                refine w_iload rfl rfl ?_
                refine w_pushL rfl ?_
                refine w_lastv (j := 29) rfl rfl (by decide) (by unfold vp_in; decide) rfl ?_
                refine w_iincv (z := 30) rfl rfl (by decide) rfl ?_
                refine w_goto rfl ?_
                refine w_iload rfl rfl ?_
                refine w_pushI rfl ?_
                refine w_icmp_ge rfl (fun h => absurd h (by decide)) (fun _ => ?_)
                refine w_aload rfl rfl ?_
                refine w_getR (r := 49) rfl rfl (hR _ fmR_48_4) ?_
                refine w_iload rfl rfl ?_
                refine w_pushL rfl ?_
                refine w_lastv (j := 30) rfl rfl (by decide) (by unfold vp_in; decide) rfl ?_
                refine w_iincv (z := 31) rfl rfl (by decide) rfl ?_
                refine w_goto rfl ?_
                refine w_iload rfl rfl ?_
                refine w_pushI rfl ?_
                refine w_icmp_ge rfl (fun h => absurd h (by decide)) (fun _ => ?_)
                refine w_aload rfl rfl ?_
                refine w_getR (r := 49) rfl rfl (hR _ fmR_48_4) ?_
                refine w_iload rfl rfl ?_
                refine w_pushL rfl ?_
                refine w_lastv (j := 31) rfl rfl (by decide) (by unfold vp_in; decide) rfl ?_
                refine w_iincv (z := 32) rfl rfl (by decide) rfl ?_
                refine w_goto rfl ?_
                refine w_iload rfl rfl ?_
                refine w_pushI rfl ?_
                refine w_icmp_ge rfl (fun h => absurd h (by decide)) (fun _ => ?_)
                refine w_aload rfl rfl ?_
                refine w_getR (r := 49) rfl rfl (hR _ fmR_48_4) ?_
                refine w_iload rfl rfl ?_
                refine w_pushL rfl ?_
                refine w_lastv (j := 32) rfl rfl (by decide) (by unfold vp_in; decide) rfl ?_
                refine w_iincv (z := 33) rfl rfl (by decide) rfl ?_
                refine w_goto rfl ?_
                refine w_iload rfl rfl ?_
                refine w_pushI rfl ?_
                refine w_icmp_ge rfl (fun h => absurd h (by decide)) (fun _ => ?_)
                refine w_aload rfl rfl ?_
                refine w_getR (r := 49) rfl rfl (hR _ fmR_48_4) ?_
                refine w_iload rfl rfl ?_
                refine w_pushL rfl ?_
                refine w_lastv (j := 33) rfl rfl (by decide) (by unfold vp_in; decide) rfl ?_
                refine w_iincv (z := 34) rfl rfl (by decide) rfl ?_
                refine w_goto rfl ?_
                refine w_iload rfl rfl ?_
                refine w_pushI rfl ?_
                refine w_icmp_ge rfl (fun h => absurd h (by decide)) (fun _ => ?_)
                refine w_aload rfl rfl ?_
                refine w_getR (r := 49) rfl rfl (hR _ fmR_48_4) ?_
                refine w_iload rfl rfl ?_
                refine w_pushL rfl ?_
                refine w_lastv (j := 34) rfl rfl (by decide) (by unfold vp_in; decide) rfl ?_
                refine w_iincv (z := 35) rfl rfl (by decide) rfl ?_
                refine w_goto rfl ?_
                refine w_iload rfl rfl ?_
                refine w_pushI rfl ?_
                refine w_icmp_ge rfl (fun h => absurd h (by decide)) (fun _ => ?_)
                refine w_aload rfl rfl ?_
                refine w_getR (r := 49) rfl rfl (hR _ fmR_48_4) ?_
                refine w_iload rfl rfl ?_
                refine w_pushL rfl ?_
                refine w_lastv (j := 35) rfl rfl (by decide) (by unfold vp_in; decide) rfl ?_
                refine w_iincv (z := 36) rfl rfl (by decide) rfl ?_
                refine w_goto rfl ?_
                refine w_iload rfl rfl ?_
                refine w_pushI rfl ?_
                refine w_icmp_ge rfl (fun h => absurd h (by decide)) (fun _ => ?_)
                refine w_aload rfl rfl ?_
                refine w_getR (r := 49) rfl rfl (hR _ fmR_48_4) ?_
                refine w_iload rfl rfl ?_
                refine w_pushL rfl ?_
                refine w_lastv (j := 36) rfl rfl (by decide) (by unfold vp_in; decide) rfl ?_
                refine w_iincv (z := 37) rfl rfl (by decide) rfl ?_
                refine w_goto rfl ?_
                refine w_iload rfl rfl ?_
                refine w_pushI rfl ?_
                refine w_icmp_ge rfl (fun h => absurd h (by decide)) (fun _ => ?_)
                refine w_aload rfl rfl ?_
                refine w_getR (r := 49) rfl rfl (hR _ fmR_48_4) ?_
                refine w_iload rfl rfl ?_
                refine w_pushL rfl ?_
                refine w_lastv (j := 37) rfl rfl (by decide) (by unfold vp_in; decide) rfl ?_
                refine w_iincv (z := 38) rfl rfl (by decide) rfl ?_
                refine w_goto rfl ?_
                refine w_iload rfl rfl ?_
                refine w_pushI rfl ?_
                refine w_icmp_ge rfl (fun h => absurd h (by decide)) (fun _ => ?_)
                refine w_aload rfl rfl ?_
                refine w_getR (r := 49) rfl rfl (hR _ fmR_48_4) ?_
                refine w_iload rfl rfl ?_
                refine w_pushL rfl ?_
                refine w_lastv (j := 38) rfl rfl (by decide) (by unfold vp_in; decide) rfl ?_
                refine w_iincv (z := 39) rfl rfl (by decide) rfl ?_
                refine w_goto rfl ?_
                refine w_iload rfl rfl ?_
                refine w_pushI rfl ?_
                refine w_icmp_ge rfl (fun h => absurd h (by decide)) (fun _ => ?_)
                refine w_aload rfl rfl ?_
                refine w_getR (r := 49) rfl rfl (hR _ fmR_48_4) ?_
                refine w_iload rfl rfl ?_
                refine w_pushL rfl ?_
                refine w_lastv (j := 39) rfl rfl (by decide) (by unfold vp_in; decide) rfl ?_
                refine w_iincv (z := 40) rfl rfl (by decide) rfl ?_
                refine w_goto rfl ?_
                refine w_iload rfl rfl ?_
                refine w_pushI rfl ?_
                refine w_icmp_ge rfl (fun h => absurd h (by decide)) (fun _ => ?_)
                refine w_aload rfl rfl ?_
                refine w_getR (r := 49) rfl rfl (hR _ fmR_48_4) ?_
                refine w_iload rfl rfl ?_
                refine w_pushL rfl ?_
                refine w_lastv (j := 40) rfl rfl (by decide) (by unfold vp_in; decide) rfl ?_
                refine w_iincv (z := 41) rfl rfl (by decide) rfl ?_
                refine w_goto rfl ?_
                refine w_iload rfl rfl ?_
                refine w_pushI rfl ?_
                refine w_icmp_ge rfl (fun h => absurd h (by decide)) (fun _ => ?_)
                refine w_aload rfl rfl ?_
                refine w_getR (r := 49) rfl rfl (hR _ fmR_48_4) ?_
                refine w_iload rfl rfl ?_
                refine w_pushL rfl ?_
                refine w_lastv (j := 41) rfl rfl (by decide) (by unfold vp_in; decide) rfl ?_
                refine w_iincv (z := 42) rfl rfl (by decide) rfl ?_
                refine w_goto rfl ?_
                refine w_iload rfl rfl ?_
                refine w_pushI rfl ?_
                refine w_icmp_ge rfl (fun h => absurd h (by decide)) (fun _ => ?_)
                refine w_aload rfl rfl ?_
                refine w_getR (r := 49) rfl rfl (hR _ fmR_48_4) ?_
                refine w_iload rfl rfl ?_
                refine w_pushL rfl ?_
                refine w_lastv (j := 42) rfl rfl (by decide) (by unfold vp_in; decide) rfl ?_
                refine w_iincv (z := 43) rfl rfl (by decide) rfl ?_
                refine w_goto rfl ?_
                refine w_iload rfl rfl ?_
                refine w_pushI rfl ?_
                refine w_icmp_ge rfl (fun h => absurd h (by decide)) (fun _ => ?_)
                refine w_aload rfl rfl ?_
                refine w_getR (r := 49) rfl rfl (hR _ fmR_48_4) ?_
                refine w_iload rfl rfl ?_
                refine w_pushL rfl ?_
                refine w_lastv (j := 43) rfl rfl (by decide) (by unfold vp_in; decide) rfl ?_
                refine w_iincv (z := 44) rfl rfl (by decide) rfl ?_
                refine w_goto rfl ?_
                refine w_iload rfl rfl ?_
                refine w_pushI rfl ?_
                refine w_icmp_ge rfl (fun h => absurd h (by decide)) (fun _ => ?_)
                refine w_aload rfl rfl ?_
                refine w_getR (r := 49) rfl rfl (hR _ fmR_48_4) ?_
                refine w_iload rfl rfl ?_
                refine w_pushL rfl ?_
                refine w_lastv (j := 44) rfl rfl (by decide) (by unfold vp_in; decide) rfl ?_
                refine w_iincv (z := 45) rfl rfl (by decide) rfl ?_
                refine w_goto rfl ?_
                refine w_iload rfl rfl ?_
                refine w_pushI rfl ?_
                refine w_icmp_ge rfl (fun h => absurd h (by decide)) (fun _ => ?_)
                refine w_aload rfl rfl ?_
                refine w_getR (r := 49) rfl rfl (hR _ fmR_48_4) ?_
                refine w_iload rfl rfl ?_
                refine w_pushL rfl ?_
                refine w_lastv (j := 45) rfl rfl (by decide) (by unfold vp_in; decide) rfl ?_
                refine w_iincv (z := 46) rfl rfl (by decide) rfl ?_
                refine w_goto rfl ?_
                refine w_iload rfl rfl ?_
                refine w_pushI rfl ?_
                refine w_icmp_ge rfl (fun h => absurd h (by decide)) (fun _ => ?_)
                refine w_aload rfl rfl ?_
                refine w_getR (r := 49) rfl rfl (hR _ fmR_48_4) ?_
                refine w_iload rfl rfl ?_
                refine w_pushL rfl ?_
                refine w_lastv (j := 46) rfl rfl (by decide) (by unfold vp_in; decide) rfl ?_
                refine w_iincv (z := 47) rfl rfl (by decide) rfl ?_
                refine w_goto rfl ?_
                refine w_iload rfl rfl ?_
                refine w_pushI rfl ?_
                refine w_icmp_ge rfl (fun h => absurd h (by decide)) (fun _ => ?_)
                refine w_aload rfl rfl ?_
                refine w_getR (r := 49) rfl rfl (hR _ fmR_48_4) ?_
                refine w_iload rfl rfl ?_
                refine w_pushL rfl ?_
                refine w_lastv (j := 47) rfl rfl (by decide) (by unfold vp_in; decide) rfl ?_
                refine w_iincv (z := 48) rfl rfl (by decide) rfl ?_
                refine w_goto rfl ?_
                refine w_iload rfl rfl ?_
                refine w_pushI rfl ?_
                refine w_icmp_ge rfl (fun h => absurd h (by decide)) (fun _ => ?_)
                refine w_aload rfl rfl ?_
                refine w_getR (r := 49) rfl rfl (hR _ fmR_48_4) ?_
                refine w_iload rfl rfl ?_
                refine w_pushL rfl ?_
                refine w_lastv (j := 48) rfl rfl (by decide) (by unfold vp_in; decide) rfl ?_
                refine w_iincv (z := 49) rfl rfl (by decide) rfl ?_
                refine w_goto rfl ?_
                refine w_iload rfl rfl ?_
                refine w_pushI rfl ?_
                refine w_icmp_ge rfl (fun h => absurd h (by decide)) (fun _ => ?_)
                refine w_aload rfl rfl ?_
                refine w_getR (r := 49) rfl rfl (hR _ fmR_48_4) ?_
                refine w_iload rfl rfl ?_
                refine w_pushL rfl ?_
                refine w_lastv (j := 49) rfl rfl (by decide) (by unfold vp_in; decide) rfl ?_
                refine w_iincv (z := 50) rfl rfl (by decide) rfl ?_
                refine w_goto rfl ?_
                refine w_iload rfl rfl ?_
                refine w_pushI rfl ?_
                refine w_icmp_ge rfl (fun h => absurd h (by decide)) (fun _ => ?_)
                refine w_aload rfl rfl ?_
                refine w_getR (r := 49) rfl rfl (hR _ fmR_48_4) ?_
                refine w_iload rfl rfl ?_
                refine w_pushL rfl ?_
                refine w_lastv (j := 50) rfl rfl (by decide) (by unfold vp_in; decide) rfl ?_
                refine w_iincv (z := 51) rfl rfl (by decide) rfl ?_
                refine w_goto rfl ?_
                refine w_iload rfl rfl ?_
                refine w_pushI rfl ?_
                refine w_icmp_ge rfl (fun h => absurd h (by decide)) (fun _ => ?_)
                refine w_aload rfl rfl ?_
                refine w_getR (r := 49) rfl rfl (hR _ fmR_48_4) ?_
                refine w_iload rfl rfl ?_
                refine w_pushL rfl ?_
                refine w_lastv (j := 51) rfl rfl (by decide) (by unfold vp_in; decide) rfl ?_
                refine w_iincv (z := 52) rfl rfl (by decide) rfl ?_
                refine w_goto rfl ?_
                refine w_iload rfl rfl ?_
                refine w_pushI rfl ?_
                refine w_icmp_ge rfl (fun h => absurd h (by decide)) (fun _ => ?_)
                refine w_aload rfl rfl ?_
                refine w_getR (r := 49) rfl rfl (hR _ fmR_48_4) ?_
                refine w_iload rfl rfl ?_
                refine w_pushL rfl ?_
                refine w_lastv (j := 52) rfl rfl (by decide) (by unfold vp_in; decide) rfl ?_
                refine w_iincv (z := 53) rfl rfl (by decide) rfl ?_
                refine w_goto rfl ?_
                refine w_iload rfl rfl ?_
                refine w_pushI rfl ?_
                refine w_icmp_ge rfl (fun h => absurd h (by decide)) (fun _ => ?_)
                refine w_aload rfl rfl ?_
                refine w_getR (r := 49) rfl rfl (hR _ fmR_48_4) ?_
                refine w_iload rfl rfl ?_
                refine w_pushL rfl ?_
                refine w_lastv (j := 53) rfl rfl (by decide) (by unfold vp_in; decide) rfl ?_
                refine w_iincv (z := 54) rfl rfl (by decide) rfl ?_
                refine w_goto rfl ?_
                refine w_iload rfl rfl ?_
                refine w_pushI rfl ?_
                refine w_icmp_ge rfl (fun h => absurd h (by decide)) (fun _ => ?_)
                refine w_aload rfl rfl ?_
                refine w_getR (r := 49) rfl rfl (hR _ fmR_48_4) ?_
                refine w_iload rfl rfl ?_
                refine w_pushL rfl ?_
                refine w_lastv (j := 54) rfl rfl (by decide) (by unfold vp_in; decide) rfl ?_
                refine w_iincv (z := 55) rfl rfl (by decide) rfl ?_
                refine w_goto rfl ?_
                refine w_iload rfl rfl ?_
                refine w_pushI rfl ?_
                refine w_icmp_ge rfl (fun h => absurd h (by decide)) (fun _ => ?_)
                refine w_aload rfl rfl ?_
                refine w_getR (r := 49) rfl rfl (hR _ fmR_48_4) ?_
                refine w_iload rfl rfl ?_
                refine w_pushL rfl ?_
                refine w_lastv (j := 55) rfl rfl (by decide) (by unfold vp_in; decide) rfl ?_
                refine w_iincv (z := 56) rfl rfl (by decide) rfl ?_
                refine w_goto rfl ?_
                refine w_iload rfl rfl ?_
                refine w_pushI rfl ?_
                refine w_icmp_ge rfl (fun h => absurd h (by decide)) (fun _ => ?_)
                refine w_aload rfl rfl ?_
                refine w_getR (r := 49) rfl rfl (hR _ fmR_48_4) ?_
                refine w_iload rfl rfl ?_
                refine w_pushL rfl ?_
                refine w_lastv (j := 56) rfl rfl (by decide) (by unfold vp_in; decide) rfl ?_
                refine w_iincv (z := 57) rfl rfl (by decide) rfl ?_
                refine w_goto rfl ?_
                refine w_iload rfl rfl ?_
                refine w_pushI rfl ?_
                refine w_icmp_ge rfl (fun h => absurd h (by decide)) (fun _ => ?_)
                refine w_aload rfl rfl ?_
                refine w_getR (r := 49) rfl rfl (hR _ fmR_48_4) ?_
                refine w_iload rfl rfl ?_
                refine w_pushL rfl ?_
                refine w_lastv (j := 57) rfl rfl (by decide) (by unfold vp_in; decide) rfl ?_
                refine w_iincv (z := 58) rfl rfl (by decide) rfl ?_
                refine w_goto rfl ?_
                refine w_iload rfl rfl ?_
                refine w_pushI rfl ?_
                refine w_icmp_ge rfl (fun h => absurd h (by decide)) (fun _ => ?_)
                refine w_aload rfl rfl ?_
                refine w_getR (r := 49) rfl rfl (hR _ fmR_48_4) ?_
                refine w_iload rfl rfl ?_
                refine w_pushL rfl ?_
                refine w_lastv (j := 58) rfl rfl (by decide) (by unfold vp_in; decide) rfl ?_
                refine w_iincv (z := 59) rfl rfl (by decide) rfl ?_
                refine w_goto rfl ?_
                refine w_iload rfl rfl ?_
                refine w_pushI rfl ?_
                refine w_icmp_ge rfl (fun h => absurd h (by decide)) (fun _ => ?_)
                refine w_aload rfl rfl ?_
                refine w_getR (r := 49) rfl rfl (hR _ fmR_48_4) ?_
                refine w_iload rfl rfl ?_
                refine w_pushL rfl ?_
                refine w_lastv (j := 59) rfl rfl (by decide) (by unfold vp_in; decide) rfl ?_
                refine w_iincv (z := 60) rfl rfl (by decide) rfl ?_
                refine w_goto rfl ?_
                refine w_iload rfl rfl ?_
                refine w_pushI rfl ?_
                refine w_icmp_ge rfl (fun _ => ?_) (fun h => absurd (by decide) h)
                refine w_vret rfl rfl ?_
                show gW _ _ _ _ _ _ _ _ _ _
                refine w_pushI rfl ?_
                refine w_iret rfl (Or.inl rfl) ?_
                exact ⟨congrArg (fun v => some (Value.int v)) (show (1 : Int32) = f1_row (5) b c by have e0 : (5 : Int32).toInt = 5 := rfl; exact ite_eq_of (fun _ => ite_eq_of (fun hc => absurd hc (by omega)) (fun _ => rfl)) (fun hc => absurd (by omega) hc)), rfl, fun x hx => (gU_o (by omega)).trans ((gU_o (by omega)).trans (gU_o (by omega))), fun x hx => (gU_o (by omega)).trans ((gU_o (by omega)).trans ((gU_o (by omega)).trans ((gU_o (by omega)).trans ((gU_o (by omega)).trans ((gU_o (by omega)).trans ((gU_o (by omega)).trans ((gU_o (by omega)).trans ((gU_o (by omega)).trans ((gU_o (by omega)).trans ((gU_o (by omega)).trans ((gU_o (by omega)).trans ((gU_o (by omega)).trans ((gU_o (by omega)).trans ((gU_o (by omega)).trans ((gU_o (by omega)).trans ((gU_o (by omega)).trans ((gU_o (by omega)).trans ((gU_o (by omega)).trans ((gU_o (by omega)).trans ((gU_o (by omega)).trans ((gU_o (by omega)).trans ((gU_o (by omega)).trans ((gU_o (by omega)).trans ((gU_o (by omega)).trans ((gU_o (by omega)).trans ((gU_o (by omega)).trans ((gU_o (by omega)).trans ((gU_o (by omega)).trans ((gU_o (by omega)).trans ((gU_o (by omega)).trans ((gU_o (by omega)).trans ((gU_o (by omega)).trans ((gU_o (by omega)).trans ((gU_o (by omega)).trans ((gU_o (by omega)).trans ((gU_o (by omega)).trans ((gU_o (by omega)).trans ((gU_o (by omega)).trans ((gU_o (by omega)).trans ((gU_o (by omega)).trans ((gU_o (by omega)).trans ((gU_o (by omega)).trans ((gU_o (by omega)).trans ((gU_o (by omega)).trans ((gU_o (by omega)).trans ((gU_o (by omega)).trans ((gU_o (by omega)).trans ((gU_o (by omega)).trans ((gU_o (by omega)).trans ((gU_o (by omega)).trans ((gU_o (by omega)).trans ((gU_o (by omega)).trans ((gU_o (by omega)).trans ((gU_o (by omega)).trans ((gU_o (by omega)).trans ((gU_o (by omega)).trans ((gU_o (by omega)).trans ((gU_o (by omega)).trans (gU_o (by omega)))))))))))))))))))))))))))))))))))))))))))))))))))))))))))), fun x hx => rfl⟩
            · refine w_pushI rfl ?_
              refine w_iret rfl (Or.inl rfl) ?_
              exact ⟨congrArg (fun v => some (Value.int v)) (show ((-14) : Int32) = f1_row a b c by exact ite_eq_of (fun _ => ite_eq_of (fun _ => rfl) (fun hc => absurd (by omega) hc)) (fun hc => absurd (by omega) hc)), rfl, fun x hx => rfl, fun x hx => rfl, fun x hx => rfl⟩
          · refine w_pushI rfl ?_
            refine w_iret rfl (Or.inl rfl) ?_
            exact ⟨congrArg (fun v => some (Value.int v)) (show ((-1) : Int32) = f1_row a b c by exact ite_eq_of (fun hc => absurd hc (by omega)) (fun _ => rfl)), rfl, fun x hx => rfl, fun x hx => rfl, fun x hx => rfl⟩
