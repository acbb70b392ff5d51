set_option maxHeartbeats 40000000 in
set_option maxRecDepth 100000 in
theorem a2_row {X : Nat × (Nat → Int32)} {d : Nat} {I : Nat → Nat → Int32} {L : Nat → Nat → Int64} {R : Nat → Nat → Option Nat} (hI : ∀ q ∈ gFlI, 50 ≤ q.1 → I q.1 q.2.1 = q.2.2) (hL : ∀ q ∈ gFlL, 50 ≤ q.1 → L q.1 q.2.1 = q.2.2) (hR : ∀ q ∈ gFlR, 50 ≤ q.1 → R q.1 q.2.1 = some q.2.2) (a : Int32) (b : Int32) (c : Int32) : gW X (d + 12) 250 0 0 0 (gEn 250 [.ref 50, .int a, .int b, .int c]) [] (gK 87, I, L, R) (fun r _ => r = some (.int (f1_row a b c))) := by
  show gW _ _ _ _ _ _ [some (.ref 50), some (.int a), some (.int b), some (.int c), none] _ _ _
  refine w_iload rfl rfl ?_
  refine w_callSi (As := [_]) (le := [some _]) rfl rfl (Nat.le_of_ble_eq_true rfl) (Nat.le_of_ble_eq_true rfl) rfl ?_
  refine w_iload rfl rfl ?_
  refine w_pushI rfl ?_
  refine w_pushI rfl ?_
  refine w_callSi (As := [_, _, _]) (le := [some _, some _, some _]) rfl rfl (Nat.le_of_ble_eq_true rfl) (Nat.le_of_ble_eq_true rfl) rfl ?_
  refine w_iload rfl rfl ?_
  refine w_iload rfl rfl ?_
  refine w_icmp_ltZ (b := 0) rfl rfl (by decide) (fun h1 => ?_) (fun h1 => ?_)
  · refine w_pushI rfl ?_
    refine w_iret rfl (Or.inr ⟨rfl, by decide⟩) ?_
    show gW _ _ _ _ _ _ _ _ _ _
    refine w_iret rfl (Or.inr ⟨rfl, by decide⟩) ?_
    show gW _ _ _ _ _ _ _ _ _ _
    refine w_if_eq rfl (fun _ => ?_) (fun h => absurd (by decide) h)
    refine w_pushI rfl ?_
    refine w_iret rfl (Or.inl rfl) ?_
    exact congrArg (fun v => some (Value.int v)) (show ((-1) : Int32) = f1_row a b c by exact ite_eq_of (fun hc => absurd hc (by omega)) (fun _ => rfl))
  · refine w_iload rfl rfl ?_
    refine w_iload rfl rfl ?_
    refine w_icmp_gtZ (b := 5) rfl rfl (by decide) (fun h2 => ?_) (fun h2 => ?_)
    · refine w_pushI rfl ?_
      refine w_iret rfl (Or.inr ⟨rfl, by decide⟩) ?_
      show gW _ _ _ _ _ _ _ _ _ _
      refine w_iret rfl (Or.inr ⟨rfl, by decide⟩) ?_
      show gW _ _ _ _ _ _ _ _ _ _
      refine w_if_eq rfl (fun _ => ?_) (fun h => absurd (by decide) h)
      refine w_pushI rfl ?_
      refine w_iret rfl (Or.inl rfl) ?_
      exact congrArg (fun v => some (Value.int v)) (show ((-1) : Int32) = f1_row a b c by exact ite_eq_of (fun hc => absurd hc (by omega)) (fun _ => rfl))
    · refine w_pushI rfl ?_
      refine w_goto rfl ?_
      refine w_iret rfl (Or.inr ⟨rfl, by decide⟩) ?_
      show gW _ _ _ _ _ _ _ _ _ _
      refine w_iret rfl (Or.inr ⟨rfl, by decide⟩) ?_
      show gW _ _ _ _ _ _ _ _ _ _
      refine w_if_eq rfl (fun h => absurd h (by decide)) (fun _ => ?_)
      refine w_iload rfl rfl ?_
      refine w_pushI rfl ?_
      refine w_pushI rfl ?_
      refine w_callSi (As := [_, _, _]) (le := [some _, some _, some _]) rfl rfl (Nat.le_of_ble_eq_true rfl) (Nat.le_of_ble_eq_true rfl) rfl ?_
      refine w_iload rfl rfl ?_
      refine w_iload rfl rfl ?_
      refine w_icmp_ltZ (b := 0) rfl rfl (by decide) (fun h3 => ?_) (fun h3 => ?_)
      · refine w_pushI rfl ?_
        refine w_iret rfl (Or.inr ⟨rfl, by decide⟩) ?_
        show gW _ _ _ _ _ _ _ _ _ _
        refine w_if_eq rfl (fun _ => ?_) (fun h => absurd (by decide) h)
        refine w_pushI rfl ?_
        refine w_iret rfl (Or.inl rfl) ?_
        exact congrArg (fun v => some (Value.int v)) (show ((-1) : Int32) = f1_row a b c by exact ite_eq_of (fun hc => absurd hc (by omega)) (fun _ => rfl))
      · refine w_iload rfl rfl ?_
        refine w_iload rfl rfl ?_
        refine w_icmp_gtZ (b := 4) rfl rfl (by decide) (fun h4 => ?_) (fun h4 => ?_)
        · refine w_pushI rfl ?_
          refine w_iret rfl (Or.inr ⟨rfl, by decide⟩) ?_
          show gW _ _ _ _ _ _ _ _ _ _
          refine w_if_eq rfl (fun _ => ?_) (fun h => absurd (by decide) h)
          refine w_pushI rfl ?_
          refine w_iret rfl (Or.inl rfl) ?_
          exact congrArg (fun v => some (Value.int v)) (show ((-1) : Int32) = f1_row a b c by exact ite_eq_of (fun hc => absurd hc (by omega)) (fun _ => rfl))
        · refine w_pushI rfl ?_
          refine w_goto rfl ?_
          refine w_iret rfl (Or.inr ⟨rfl, by decide⟩) ?_
          show gW _ _ _ _ _ _ _ _ _ _
          refine w_if_eq rfl (fun h => absurd h (by decide)) (fun _ => ?_)
          refine w_iload rfl rfl ?_
          refine w_pushI rfl ?_
          refine w_icmp_leZ (b := 60) rfl rfl (by decide) (fun h5 => ?_) (fun h5 => ?_)
          · refine w_iload rfl rfl ?_
            refine w_if_geZ rfl rfl (fun h6 => ?_) (fun h6 => ?_)
            · refine w_aload rfl rfl ?_
              refine w_getR (r := 83) rfl rfl (hR _ fmR_50_58 (by decide)) ?_
              refine w_iload rfl rfl ?_
              refine w_pushI rfl ?_
              refine w_iload rfl rfl ?_
              refine w_isub rfl ?_
              rcases (show a.toInt = 0 ∨ a.toInt = 1 ∨ a.toInt = 2 ∨ a.toInt = 3 ∨ a.toInt = 4 ∨ a.toInt = 5 by omega) with hs7 | hs7 | hs7 | hs7 | hs7 | hs7
              · obtain rfl : a = 0 := i_is hs7 (by decide)
                refine w_iastv (j := 0) rfl rfl (by decide) (by unfold vp_in; decide) rfl ?_
                refine w_aload rfl rfl ?_
                refine w_getR (r := 84) rfl rfl (hR _ fmR_50_59 (by decide)) ?_
                refine w_iload rfl rfl ?_
                refine w_topv (z := 0) (by decide) ?_
                refine w_iload rfl rfl ?_
                refine w_iastv (j := 0) rfl rfl (by decide) (by unfold vp_in; decide) rfl ?_
                refine w_pushI rfl ?_
                refine w_iload rfl rfl ?_
                refine w_topv (z := 0) (by decide) ?_
                refine w_imulv (z := 0) rfl (by decide) ?_
                refine w_istore rfl rfl ?_
                refine w_iload rfl rfl ?_
                refine w_pushI rfl ?_
                refine w_iload rfl rfl ?_
                refine w_topv (z := 0) (by decide) ?_
                refine w_imulv (z := 0) rfl (by decide) ?_
                refine w_pushI rfl ?_
                refine w_iaddv (z := 60) rfl (by decide) ?_
                refine w_icmp_ge rfl (fun h => absurd h (by decide)) (fun _ => ?_)
                refine w_aload rfl rfl ?_
                refine w_getR (r := 85) rfl rfl (hR _ fmR_50_60 (by decide)) ?_
                refine w_iload rfl rfl ?_
                refine w_pushL rfl ?_
                refine w_lastv (j := 0) rfl rfl (by decide) (by unfold vp_in; decide) rfl ?_
                refine w_iincv (z := 1) rfl rfl (by decide) rfl ?_
                refine w_goto rfl ?_
                refine w_iload rfl rfl ?_
                refine w_pushI rfl ?_
                refine w_iload rfl rfl ?_
                refine w_topv (z := 0) (by decide) ?_
                refine w_imulv (z := 0) rfl (by decide) ?_
                refine w_pushI rfl ?_
                refine w_iaddv (z := 60) rfl (by decide) ?_
                refine w_icmp_ge rfl (fun h => absurd h (by decide)) (fun _ => ?_)
                refine w_aload rfl rfl ?_
                refine w_getR (r := 85) rfl rfl (hR _ fmR_50_60 (by decide)) ?_
                refine w_iload rfl rfl ?_
                refine w_pushL rfl ?_
                refine w_lastv (j := 1) rfl rfl (by decide) (by unfold vp_in; decide) rfl ?_
                refine w_iincv (z := 2) rfl rfl (by decide) rfl ?_
                refine w_goto rfl ?_
                refine w_iload rfl rfl ?_
                refine w_pushI rfl ?_
                refine w_iload rfl rfl ?_
                refine w_topv (z := 0) (by decide) ?_
                refine w_imulv (z := 0) rfl (by decide) ?_
                refine w_pushI rfl ?_
                refine w_iaddv (z := 60) rfl (by decide) ?_
                refine w_icmp_ge rfl (fun h => absurd h (by decide)) (fun _ => ?_)
                refine w_aload rfl rfl ?_
                refine w_getR (r := 85) rfl rfl (hR _ fmR_50_60 (by decide)) ?_
                refine w_iload rfl rfl ?_
                refine w_pushL rfl ?_
                refine w_lastv (j := 2) rfl rfl (by decide) (by unfold vp_in; decide) rfl ?_
                refine w_iincv (z := 3) rfl rfl (by decide) rfl ?_
                refine w_goto rfl ?_
                refine w_iload rfl rfl ?_
                refine w_pushI rfl ?_
                refine w_iload rfl rfl ?_
                refine w_topv (z := 0) (by decide) ?_
                refine w_imulv (z := 0) rfl (by decide) ?_
                refine w_pushI rfl ?_
                refine w_iaddv (z := 60) rfl (by decide) ?_
                refine w_icmp_ge rfl (fun h => absurd h (by decide)) (fun _ => ?_)
                refine w_aload rfl rfl ?_
                refine w_getR (r := 85) rfl rfl (hR _ fmR_50_60 (by decide)) ?_
                refine w_iload rfl rfl ?_
                refine w_pushL rfl ?_
                refine w_lastv (j := 3) rfl rfl (by decide) (by unfold vp_in; decide) rfl ?_
                refine w_iincv (z := 4) rfl rfl (by decide) rfl ?_
                refine w_goto rfl ?_
                refine w_iload rfl rfl ?_
                refine w_pushI rfl ?_
                refine w_iload rfl rfl ?_
                refine w_topv (z := 0) (by decide) ?_
                refine w_imulv (z := 0) rfl (by decide) ?_
                refine w_pushI rfl ?_
                refine w_iaddv (z := 60) rfl (by decide) ?_
                refine w_icmp_ge rfl (fun h => absurd h (by decide)) (fun _ => ?_)
                refine w_aload rfl rfl ?_
                refine w_getR (r := 85) rfl rfl (hR _ fmR_50_60 (by decide)) ?_
                refine w_iload rfl rfl ?_
                refine w_pushL rfl ?_
                refine w_lastv (j := 4) rfl rfl (by decide) (by unfold vp_in; decide) rfl ?_
                refine w_iincv (z := 5) rfl rfl (by decide) rfl ?_
                refine w_goto rfl ?_
                refine w_iload rfl rfl ?_
                refine w_pushI rfl ?_
                refine w_iload rfl rfl ?_
                refine w_topv (z := 0) (by decide) ?_
                refine w_imulv (z := 0) rfl (by decide) ?_
                refine w_pushI rfl ?_
                refine w_iaddv (z := 60) rfl (by decide) ?_
                refine w_icmp_ge rfl (fun h => absurd h (by decide)) (fun _ => ?_)
                refine w_aload rfl rfl ?_
                refine w_getR (r := 85) rfl rfl (hR _ fmR_50_60 (by decide)) ?_
                refine w_iload rfl rfl ?_
                refine w_pushL rfl ?_
                refine w_lastv (j := 5) rfl rfl (by decide) (by unfold vp_in; decide) rfl ?_
                refine w_iincv (z := 6) rfl rfl (by decide) rfl ?_
                refine w_goto rfl ?_
                refine w_iload rfl rfl ?_
                refine w_pushI rfl ?_
                refine w_iload rfl rfl ?_
                refine w_topv (z := 0) (by decide) ?_
                refine w_imulv (z := 0) rfl (by decide) ?_
                refine w_pushI rfl ?_
                refine w_iaddv (z := 60) rfl (by decide) ?_
                refine w_icmp_ge rfl (fun h => absurd h (by decide)) (fun _ => ?_)
                refine w_aload rfl rfl ?_
                refine w_getR (r := 85) rfl rfl (hR _ fmR_50_60 (by decide)) ?_
                refine w_iload rfl rfl ?_
                refine w_pushL rfl ?_
                refine w_lastv (j := 6) rfl rfl (by decide) (by unfold vp_in; decide) rfl ?_
                refine w_iincv (z := 7) rfl rfl (by decide) rfl ?_
                refine w_goto rfl ?_
                refine w_iload rfl rfl ?_
                refine w_pushI rfl ?_
                refine w_iload rfl rfl ?_
                refine w_topv (z := 0) (by decide) ?_
                refine w_imulv (z := 0) rfl (by decide) ?_
                refine w_pushI rfl ?_
                refine w_iaddv (z := 60) rfl (by decide) ?_
                refine w_icmp_ge rfl (fun h => absurd h (by decide)) (fun _ => ?_)
                refine w_aload rfl rfl ?_
                refine w_getR (r := 85) rfl rfl (hR _ fmR_50_60 (by decide)) ?_
                refine w_iload rfl rfl ?_
                refine w_pushL rfl ?_
                refine w_lastv (j := 7) rfl rfl (by decide) (by unfold vp_in; decide) rfl ?_
                refine w_iincv (z := 8) rfl rfl (by decide) rfl ?_
                refine w_goto rfl ?_
                refine w_iload rfl rfl ?_
                refine w_pushI rfl ?_
                refine w_iload rfl rfl ?_
                refine w_topv (z := 0) (by decide) ?_
                refine w_imulv (z := 0) rfl (by decide) ?_
                refine w_pushI rfl ?_
                refine w_iaddv (z := 60) rfl (by decide) ?_
                refine w_icmp_ge rfl (fun h => absurd h (by decide)) (fun _ => ?_)
                refine w_aload rfl rfl ?_
                refine w_getR (r := 85) rfl rfl (hR _ fmR_50_60 (by decide)) ?_
                refine w_iload rfl rfl ?_
                refine w_pushL rfl ?_
                refine w_lastv (j := 8) rfl rfl (by decide) (by unfold vp_in; decide) rfl ?_
                refine w_iincv (z := 9) rfl rfl (by decide) rfl ?_
                refine w_goto rfl ?_
                refine w_iload rfl rfl ?_
                refine w_pushI rfl ?_
                refine w_iload rfl rfl ?_
                refine w_topv (z := 0) (by decide) ?_
                refine w_imulv (z := 0) rfl (by decide) ?_
                refine w_pushI rfl ?_
                refine w_iaddv (z := 60) rfl (by decide) ?_
                refine w_icmp_ge rfl (fun h => absurd h (by decide)) (fun _ => ?_)
                refine w_aload rfl rfl ?_
                refine w_getR (r := 85) rfl rfl (hR _ fmR_50_60 (by decide)) ?_
                refine w_iload rfl rfl ?_
                refine w_pushL rfl ?_
                refine w_lastv (j := 9) rfl rfl (by decide) (by unfold vp_in; decide) rfl ?_
                refine w_iincv (z := 10) rfl rfl (by decide) rfl ?_
                refine w_goto rfl ?_
                refine w_iload rfl rfl ?_
                refine w_pushI rfl ?_
                refine w_iload rfl rfl ?_
                refine w_topv (z := 0) (by decide) ?_
                refine w_imulv (z := 0) rfl (by decide) ?_
                refine w_pushI rfl ?_
                refine w_iaddv (z := 60) rfl (by decide) ?_
                refine w_icmp_ge rfl (fun h => absurd h (by decide)) (fun _ => ?_)
                refine w_aload rfl rfl ?_
                refine w_getR (r := 85) rfl rfl (hR _ fmR_50_60 (by decide)) ?_
                refine w_iload rfl rfl ?_
                refine w_pushL rfl ?_
                refine w_lastv (j := 10) rfl rfl (by decide) (by unfold vp_in; decide) rfl ?_
                refine w_iincv (z := 11) rfl rfl (by decide) rfl ?_
                refine w_goto rfl ?_
                refine w_iload rfl rfl ?_
                refine w_pushI rfl ?_
                refine w_iload rfl rfl ?_
                refine w_topv (z := 0) (by decide) ?_
                refine w_imulv (z := 0) rfl (by decide) ?_
                refine w_pushI rfl ?_
                refine w_iaddv (z := 60) rfl (by decide) ?_
                refine w_icmp_ge rfl (fun h => absurd h (by decide)) (fun _ => ?_)
                refine w_aload rfl rfl ?_
                refine w_getR (r := 85) rfl rfl (hR _ fmR_50_60 (by decide)) ?_
                refine w_iload rfl rfl ?_
                refine w_pushL rfl ?_
                refine w_lastv (j := 11) rfl rfl (by decide) (by unfold vp_in; decide) rfl ?_
                refine w_iincv (z := 12) rfl rfl (by decide) rfl ?_
                refine w_goto rfl ?_
                refine w_iload rfl rfl ?_
                refine w_pushI rfl ?_
                refine w_iload rfl rfl ?_
                refine w_topv (z := 0) (by decide) ?_
                refine w_imulv (z := 0) rfl (by decide) ?_
                refine w_pushI rfl ?_
                refine w_iaddv (z := 60) rfl (by decide) ?_
                refine w_icmp_ge rfl (fun h => absurd h (by decide)) (fun _ => ?_)
                refine w_aload rfl rfl ?_
                refine w_getR (r := 85) rfl rfl (hR _ fmR_50_60 (by decide)) ?_
                refine w_iload rfl rfl ?_
                refine w_pushL rfl ?_
                refine w_lastv (j := 12) rfl rfl (by decide) (by unfold vp_in; decide) rfl ?_
                refine w_iincv (z := 13) rfl rfl (by decide) rfl ?_
                refine w_goto rfl ?_
                refine w_iload rfl rfl ?_
                refine w_pushI rfl ?_
                refine w_iload rfl rfl ?_
                refine w_topv (z := 0) (by decide) ?_
                refine w_imulv (z := 0) rfl (by decide) ?_
                refine w_pushI rfl ?_
                refine w_iaddv (z := 60) rfl (by decide) ?_
                refine w_icmp_ge rfl (fun h => absurd h (by decide)) (fun _ => ?_)
                refine w_aload rfl rfl ?_
                refine w_getR (r := 85) rfl rfl (hR _ fmR_50_60 (by decide)) ?_
                refine w_iload rfl rfl ?_
                refine w_pushL rfl ?_
                refine w_lastv (j := 13) rfl rfl (by decide) (by unfold vp_in; decide) rfl ?_
                refine w_iincv (z := 14) rfl rfl (by decide) rfl ?_
                refine w_goto rfl ?_
                refine w_iload rfl rfl ?_
                refine w_pushI rfl ?_
                refine w_iload rfl rfl ?_
                refine w_topv (z := 0) (by decide) ?_
                refine w_imulv (z := 0) rfl (by decide) ?_
                refine w_pushI rfl ?_
                refine w_iaddv (z := 60) rfl (by decide) ?_
                refine w_icmp_ge rfl (fun h => absurd h (by decide)) (fun _ => ?_)
                refine w_aload rfl rfl ?_
                refine w_getR (r := 85) rfl rfl (hR _ fmR_50_60 (by decide)) ?_
                refine w_iload rfl rfl ?_
                refine w_pushL rfl ?_
                refine w_lastv (j := 14) rfl rfl (by decide) (by unfold vp_in; decide) rfl ?_
                refine w_iincv (z := 15) rfl rfl (by decide) rfl ?_
                refine w_goto rfl ?_
                refine w_iload rfl rfl ?_
                refine w_pushI rfl ?_
                refine w_iload rfl rfl ?_
                refine w_topv (z := 0) (by decide) ?_
                refine w_imulv (z := 0) rfl (by decide) ?_
                refine w_pushI rfl ?_
                refine w_iaddv (z := 60) rfl (by decide) ?_
                refine w_icmp_ge rfl (fun h => absurd h (by decide)) (fun _ => ?_)
                refine w_aload rfl rfl ?_
                refine w_getR (r := 85) rfl rfl (hR _ fmR_50_60 (by decide)) ?_
                refine w_iload rfl rfl ?_
                refine w_pushL rfl ?_
                refine w_lastv (j := 15) rfl rfl (by decide) (by unfold vp_in; decide) rfl ?_
                refine w_iincv (z := 16) rfl rfl (by decide) rfl ?_
                refine w_goto rfl ?_
                refine w_iload rfl rfl ?_
                refine w_pushI rfl ?_
                refine w_iload rfl rfl ?_
                refine w_topv (z := 0) (by decide) ?_
                refine w_imulv (z := 0) rfl (by decide) ?_
                refine w_pushI rfl ?_
                refine w_iaddv (z := 60) rfl (by decide) ?_
                refine w_icmp_ge rfl (fun h => absurd h (by decide)) (fun _ => ?_)
                refine w_aload rfl rfl ?_
                refine w_getR (r := 85) rfl rfl (hR _ fmR_50_60 (by decide)) ?_
                refine w_iload rfl rfl ?_
                refine w_pushL rfl ?_
                refine w_lastv (j := 16) rfl rfl (by decide) (by unfold vp_in; decide) rfl ?_
                refine w_iincv (z := 17) rfl rfl (by decide) rfl ?_
                refine w_goto rfl ?_
                refine w_iload rfl rfl ?_
                refine w_pushI rfl ?_
                refine w_iload rfl rfl ?_
                refine w_topv (z := 0) (by decide) ?_
                refine w_imulv (z := 0) rfl (by decide) ?_
                refine w_pushI rfl ?_
                refine w_iaddv (z := 60) rfl (by decide) ?_
                refine w_icmp_ge rfl (fun h => absurd h (by decide)) (fun _ => ?_)
                refine w_aload rfl rfl ?_
                refine w_getR (r := 85) rfl rfl (hR _ fmR_50_60 (by decide)) ?_
                refine w_iload rfl rfl ?_
                refine w_pushL rfl ?_
                refine w_lastv (j := 17) rfl rfl (by decide) (by unfold vp_in; decide) rfl ?_
                refine w_iincv (z := 18) rfl rfl (by decide) rfl ?_
                refine w_goto rfl ?_
                refine w_iload rfl rfl ?_
                refine w_pushI rfl ?_
                refine w_iload rfl rfl ?_
                refine w_topv (z := 0) (by decide) ?_
                refine w_imulv (z := 0) rfl (by decide) ?_
                refine w_pushI rfl ?_
                refine w_iaddv (z := 60) rfl (by decide) ?_
                refine w_icmp_ge rfl (fun h => absurd h (by decide)) (fun _ => ?_)
                refine w_aload rfl rfl ?_
                refine w_getR (r := 85) rfl rfl (hR _ fmR_50_60 (by decide)) ?_
                refine w_iload rfl rfl ?_
                refine w_pushL rfl ?_
                refine w_lastv (j := 18) rfl rfl (by decide) (by unfold vp_in; decide) rfl ?_
                refine w_iincv (z := 19) rfl rfl (by decide) rfl ?_
                refine w_goto rfl ?_
                refine w_iload rfl rfl ?_
                refine w_pushI rfl ?_
                refine w_iload rfl rfl ?_
                refine w_topv (z := 0) (by decide) ?_
                refine w_imulv (z := 0) rfl (by decide) ?_
                refine w_pushI rfl ?_
                refine w_iaddv (z := 60) rfl (by decide) ?_
                refine w_icmp_ge rfl (fun h => absurd h (by decide)) (fun _ => ?_)
                refine w_aload rfl rfl ?_
                refine w_getR (r := 85) rfl rfl (hR _ fmR_50_60 (by decide)) ?_
                refine w_iload rfl rfl ?_
                refine w_pushL rfl ?_
                refine w_lastv (j := 19) rfl rfl (by decide) (by unfold vp_in; decide) rfl ?_
                refine w_iincv (z := 20) rfl rfl (by decide) rfl ?_
                refine w_goto rfl ?_
                refine w_iload rfl rfl ?_
                refine w_pushI rfl ?_
                refine w_iload rfl rfl ?_
                refine w_topv (z := 0) (by decide) ?_
                refine w_imulv (z := 0) rfl (by decide) ?_
                refine w_pushI rfl ?_
                refine w_iaddv (z := 60) rfl (by decide) ?_
                refine w_icmp_ge rfl (fun h => absurd h (by decide)) (fun _ => ?_)
                refine w_aload rfl rfl ?_
                refine w_getR (r := 85) rfl rfl (hR _ fmR_50_60 (by decide)) ?_
                refine w_iload rfl rfl ?_
                refine w_pushL rfl ?_
                refine w_lastv (j := 20) rfl rfl (by decide) (by unfold vp_in; decide) rfl ?_
                refine w_iincv (z := 21) rfl rfl (by decide) rfl ?_
                refine w_goto rfl ?_
                refine w_iload rfl rfl ?_
                refine w_pushI rfl ?_
                refine w_iload rfl rfl ?_
                refine w_topv (z := 0) (by decide) ?_
                refine w_imulv (z := 0) rfl (by decide) ?_
                refine w_pushI rfl ?_
                refine w_iaddv (z := 60) rfl (by decide) ?_
                refine w_icmp_ge rfl (fun h => absurd h (by decide)) (fun _ => ?_)
                refine w_aload rfl rfl ?_
                refine w_getR (r := 85) rfl rfl (hR _ fmR_50_60 (by decide)) ?_
                refine w_iload rfl rfl ?_
                refine w_pushL rfl ?_
                refine w_lastv (j := 21) rfl rfl (by decide) (by unfold vp_in; decide) rfl ?_
                refine w_iincv (z := 22) rfl rfl (by decide) rfl ?_
                refine w_goto rfl ?_
                refine w_iload rfl rfl ?_
                refine w_pushI rfl ?_
                refine w_iload rfl rfl ?_
                refine w_topv (z := 0) (by decide) ?_
                refine w_imulv (z := 0) rfl (by decide) ?_
                refine w_pushI rfl ?_
                refine w_iaddv (z := 60) rfl (by decide) ?_
                refine w_icmp_ge rfl (fun h => absurd h (by decide)) (fun _ => ?_)
                refine w_aload rfl rfl ?_
                refine w_getR (r := 85) rfl rfl (hR _ fmR_50_60 (by decide)) ?_
                refine w_iload rfl rfl ?_
                refine w_pushL rfl ?_
                refine w_lastv (j := 22) rfl rfl (by decide) (by unfold vp_in; decide) rfl ?_
                refine w_iincv (z := 23) rfl rfl (by decide) rfl ?_
                refine w_goto rfl ?_
                refine w_iload rfl rfl ?_
                refine w_pushI rfl ?_
                refine w_iload rfl rfl ?_
                refine w_topv (z := 0) (by decide) ?_
                refine w_imulv (z := 0) rfl (by decide) ?_
                refine w_pushI rfl ?_
                refine w_iaddv (z := 60) rfl (by decide) ?_
                refine w_icmp_ge rfl (fun h => absurd h (by decide)) (fun _ => ?_)
                refine w_aload rfl rfl ?_
                refine w_getR (r := 85) rfl rfl (hR _ fmR_50_60 (by decide)) ?_
                refine w_iload rfl rfl ?_
                refine w_pushL rfl ?_
                refine w_lastv (j := 23) rfl rfl (by decide) (by unfold vp_in; decide) rfl ?_
                refine w_iincv (z := 24) rfl rfl (by decide) rfl ?_
                refine w_goto rfl ?_
                refine w_iload rfl rfl ?_
                refine w_pushI rfl ?_
                refine w_iload rfl rfl ?_
                refine w_topv (z := 0) (by decide) ?_
                refine w_imulv (z := 0) rfl (by decide) ?_
                refine w_pushI rfl ?_
                refine w_iaddv (z := 60) rfl (by decide) ?_
                refine w_icmp_ge rfl (fun h => absurd h (by decide)) (fun _ => ?_)
                refine w_aload rfl rfl ?_
                refine w_getR (r := 85) rfl rfl (hR _ fmR_50_60 (by decide)) ?_
                refine w_iload rfl rfl ?_
                refine w_pushL rfl ?_
                refine w_lastv (j := 24) rfl rfl (by decide) (by unfold vp_in; decide) rfl ?_
                refine w_iincv (z := 25) rfl rfl (by decide) rfl ?_
                refine w_goto rfl ?_
                refine w_iload rfl rfl ?_
                refine w_pushI rfl ?_
                refine w_iload rfl rfl ?_
                refine w_topv (z := 0) (by decide) ?_
                refine w_imulv (z := 0) rfl (by decide) ?_
                refine w_pushI rfl ?_
                refine w_iaddv (z := 60) rfl (by decide) ?_
                refine w_icmp_ge rfl (fun h => absurd h (by decide)) (fun _ => ?_)
                refine w_aload rfl rfl ?_
                refine w_getR (r := 85) rfl rfl (hR _ fmR_50_60 (by decide)) ?_
                refine w_iload rfl rfl ?_
                refine w_pushL rfl ?_
                refine w_lastv (j := 25) rfl rfl (by decide) (by unfold vp_in; decide) rfl ?_
                refine w_iincv (z := 26) rfl rfl (by decide) rfl ?_
                refine w_goto rfl ?_
                refine w_iload rfl rfl ?_
                refine w_pushI rfl ?_
                refine w_iload rfl rfl ?_
                refine w_topv (z := 0) (by decide) ?_
                refine w_imulv (z := 0) rfl (by decide) ?_
                refine w_pushI rfl ?_
                refine w_iaddv (z := 60) rfl (by decide) ?_
                refine w_icmp_ge rfl (fun h => absurd h (by decide)) (fun _ => ?_)
                refine w_aload rfl rfl ?_
                refine w_getR (r := 85) rfl rfl (hR _ fmR_50_60 (by decide)) ?_
                refine w_iload rfl rfl ?_
                refine w_pushL rfl ?_
                refine w_lastv (j := 26) rfl rfl (by decide) (by unfold vp_in; decide) rfl ?_
                refine w_iincv (z := 27) rfl rfl (by decide) rfl ?_
                refine w_goto rfl ?_
                refine w_iload rfl rfl ?_
                refine w_pushI rfl ?_
                refine w_iload rfl rfl ?_
                refine w_topv (z := 0) (by decide) ?_
                refine w_imulv (z := 0) rfl (by decide) ?_
                refine w_pushI rfl ?_
                refine w_iaddv (z := 60) rfl (by decide) ?_
                refine w_icmp_ge rfl (fun h => absurd h (by decide)) (fun _ => ?_)
                refine w_aload rfl rfl ?_
                refine w_getR (r := 85) rfl rfl (hR _ fmR_50_60 (by decide)) ?_
                refine w_iload rfl rfl ?_
                refine w_pushL rfl ?_
                refine w_lastv (j := 27) rfl rfl (by decide) (by unfold vp_in; decide) rfl ?_
                refine w_iincv (z := 28) rfl rfl (by decide) rfl ?_
                refine w_goto rfl ?_
                refine w_iload rfl rfl ?_
                refine w_pushI rfl ?_
                refine w_iload rfl rfl ?_
                refine w_topv (z := 0) (by decide) ?_
                refine w_imulv (z := 0) rfl (by decide) ?_
                refine w_pushI rfl ?_
                refine w_iaddv (z := 60) rfl (by decide) ?_
                refine w_icmp_ge rfl (fun h => absurd h (by decide)) (fun _ => ?_)
                refine w_aload rfl rfl ?_
                refine w_getR (r := 85) rfl rfl (hR _ fmR_50_60 (by decide)) ?_
                refine w_iload rfl rfl ?_
                refine w_pushL rfl ?_
                refine w_lastv (j := 28) rfl rfl (by decide) (by unfold vp_in; decide) rfl ?_
                refine w_iincv (z := 29) rfl rfl (by decide) rfl ?_
                refine w_goto rfl ?_
                refine w_iload rfl rfl ?_
                refine w_pushI rfl ?_
                refine w_iload rfl rfl ?_
                refine w_topv (z := 0) (by decide) ?_
                refine w_imulv (z := 0) rfl (by decide) ?_
                refine w_pushI rfl ?_
                refine w_iaddv (z := 60) rfl (by decide) ?_
                refine w_icmp_ge rfl (fun h => absurd h (by decide)) (fun _ => ?_)
                refine w_aload rfl rfl ?_
                refine w_getR (r := 85) rfl rfl (hR _ fmR_50_60 (by decide)) ?_
                refine w_iload rfl rfl ?_
                refine w_pushL rfl ?_
                refine w_lastv (j := 29) rfl rfl (by decide) (by unfold vp_in; decide) rfl ?_
                refine w_iincv (z := 30) rfl rfl (by decide) rfl ?_
                refine w_goto rfl ?_
                refine w_iload rfl rfl ?_
                refine w_pushI rfl ?_
                refine w_iload rfl rfl ?_
                refine w_topv (z := 0) (by decide) ?_
                refine w_imulv (z := 0) rfl (by decide) ?_
                refine w_pushI rfl ?_
                refine w_iaddv (z := 60) rfl (by decide) ?_
                refine w_icmp_ge rfl (fun h => absurd h (by decide)) (fun _ => ?_)
                refine w_aload rfl rfl ?_
                refine w_getR (r := 85) rfl rfl (hR _ fmR_50_60 (by decide)) ?_
                refine w_iload rfl rfl ?_
                refine w_pushL rfl ?_
                refine w_lastv (j := 30) rfl rfl (by decide) (by unfold vp_in; decide) rfl ?_
                refine w_iincv (z := 31) rfl rfl (by decide) rfl ?_
                refine w_goto rfl ?_
                refine w_iload rfl rfl ?_
                refine w_pushI rfl ?_
                refine w_iload rfl rfl ?_
                refine w_topv (z := 0) (by decide) ?_
                refine w_imulv (z := 0) rfl (by decide) ?_
                refine w_pushI rfl ?_
                refine w_iaddv (z := 60) rfl (by decide) ?_
                refine w_icmp_ge rfl (fun h => absurd h (by decide)) (fun _ => ?_)
                refine w_aload rfl rfl ?_
                refine w_getR (r := 85) rfl rfl (hR _ fmR_50_60 (by decide)) ?_
                refine w_iload rfl rfl ?_
                refine w_pushL rfl ?_
                refine w_lastv (j := 31) rfl rfl (by decide) (by unfold vp_in; decide) rfl ?_
                refine w_iincv (z := 32) rfl rfl (by decide) rfl ?_
                refine w_goto rfl ?_
                refine w_iload rfl rfl ?_
                refine w_pushI rfl ?_
                refine w_iload rfl rfl ?_
                refine w_topv (z := 0) (by decide) ?_
                refine w_imulv (z := 0) rfl (by decide) ?_
                refine w_pushI rfl ?_
                refine w_iaddv (z := 60) rfl (by decide) ?_
                refine w_icmp_ge rfl (fun h => absurd h (by decide)) (fun _ => ?_)
                refine w_aload rfl rfl ?_
                refine w_getR (r := 85) rfl rfl (hR _ fmR_50_60 (by decide)) ?_
                refine w_iload rfl rfl ?_
                refine w_pushL rfl ?_
                refine w_lastv (j := 32) rfl rfl (by decide) (by unfold vp_in; decide) rfl ?_
                refine w_iincv (z := 33) rfl rfl (by decide) rfl ?_
                refine w_goto rfl ?_
                refine w_iload rfl rfl ?_
                refine w_pushI rfl ?_
                refine w_iload rfl rfl ?_
                refine w_topv (z := 0) (by decide) ?_
                refine w_imulv (z := 0) rfl (by decide) ?_
                refine w_pushI rfl ?_
                refine w_iaddv (z := 60) rfl (by decide) ?_
                refine w_icmp_ge rfl (fun h => absurd h (by decide)) (fun _ => ?_)
                refine w_aload rfl rfl ?_
                refine w_getR (r := 85) rfl rfl (hR _ fmR_50_60 (by decide)) ?_
                refine w_iload rfl rfl ?_
                refine w_pushL rfl ?_
                refine w_lastv (j := 33) rfl rfl (by decide) (by unfold vp_in; decide) rfl ?_
                refine w_iincv (z := 34) rfl rfl (by decide) rfl ?_
                refine w_goto rfl ?_
                refine w_iload rfl rfl ?_
                refine w_pushI rfl ?_
                refine w_iload rfl rfl ?_
                refine w_topv (z := 0) (by decide) ?_
                refine w_imulv (z := 0) rfl (by decide) ?_
                refine w_pushI rfl ?_
                refine w_iaddv (z := 60) rfl (by decide) ?_
                refine w_icmp_ge rfl (fun h => absurd h (by decide)) (fun _ => ?_)
                refine w_aload rfl rfl ?_
                refine w_getR (r := 85) rfl rfl (hR _ fmR_50_60 (by decide)) ?_
                refine w_iload rfl rfl ?_
                refine w_pushL rfl ?_
                refine w_lastv (j := 34) rfl rfl (by decide) (by unfold vp_in; decide) rfl ?_
                refine w_iincv (z := 35) rfl rfl (by decide) rfl ?_
                refine w_goto rfl ?_
                refine w_iload rfl rfl ?_
                refine w_pushI rfl ?_
                refine w_iload rfl rfl ?_
                refine w_topv (z := 0) (by decide) ?_
                refine w_imulv (z := 0) rfl (by decide) ?_
                refine w_pushI rfl ?_
                refine w_iaddv (z := 60) rfl (by decide) ?_
                refine w_icmp_ge rfl (fun h => absurd h (by decide)) (fun _ => ?_)
                refine w_aload rfl rfl ?_
                refine w_getR (r := 85) rfl rfl (hR _ fmR_50_60 (by decide)) ?_
                refine w_iload rfl rfl ?_
                refine w_pushL rfl ?_
                refine w_lastv (j := 35) rfl rfl (by decide) (by unfold vp_in; decide) rfl ?_
                refine w_iincv (z := 36) rfl rfl (by decide) rfl ?_
                refine w_goto rfl ?_
                refine w_iload rfl rfl ?_
                refine w_pushI rfl ?_
                refine w_iload rfl rfl ?_
                refine w_topv (z := 0) (by decide) ?_
                refine w_imulv (z := 0) rfl (by decide) ?_
                refine w_pushI rfl ?_
                refine w_iaddv (z := 60) rfl (by decide) ?_
                refine w_icmp_ge rfl (fun h => absurd h (by decide)) (fun _ => ?_)
                refine w_aload rfl rfl ?_
                refine w_getR (r := 85) rfl rfl (hR _ fmR_50_60 (by decide)) ?_
                refine w_iload rfl rfl ?_
                refine w_pushL rfl ?_
                refine w_lastv (j := 36) rfl rfl (by decide) (by unfold vp_in; decide) rfl ?_
                refine w_iincv (z := 37) rfl rfl (by decide) rfl ?_
                refine w_goto rfl ?_
                refine w_iload rfl rfl ?_
                refine w_pushI rfl ?_
                refine w_iload rfl rfl ?_
                refine w_topv (z := 0) (by decide) ?_
                refine w_imulv (z := 0) rfl (by decide) ?_
                refine w_pushI rfl ?_
                refine w_iaddv (z := 60) rfl (by decide) ?_
                refine w_icmp_ge rfl (fun h => absurd h (by decide)) (fun _ => ?_)
                refine w_aload rfl rfl ?_
                refine w_getR (r := 85) rfl rfl (hR _ fmR_50_60 (by decide)) ?_
                refine w_iload rfl rfl ?_
                refine w_pushL rfl ?_
                refine w_lastv (j := 37) rfl rfl (by decide) (by unfold vp_in; decide) rfl ?_
                refine w_iincv (z := 38) rfl rfl (by decide) rfl ?_
                refine w_goto rfl ?_
                refine w_iload rfl rfl ?_
                refine w_pushI rfl ?_
                refine w_iload rfl rfl ?_
                refine w_topv (z := 0) (by decide) ?_
                refine w_imulv (z := 0) rfl (by decide) ?_
                refine w_pushI rfl ?_
                refine w_iaddv (z := 60) rfl (by decide) ?_
                refine w_icmp_ge rfl (fun h => absurd h (by decide)) (fun _ => ?_)
                refine w_aload rfl rfl ?_
                refine w_getR (r := 85) rfl rfl (hR _ fmR_50_60 (by decide)) ?_
                refine w_iload rfl rfl ?_
                refine w_pushL rfl ?_
                refine w_lastv (j := 38) rfl rfl (by decide) (by unfold vp_in; decide) rfl ?_
                refine w_iincv (z := 39) rfl rfl (by decide) rfl ?_
                refine w_goto rfl ?_
                refine w_iload rfl rfl ?_
                refine w_pushI rfl ?_
                refine w_iload rfl rfl ?_
                refine w_topv (z := 0) (by decide) ?_
                refine w_imulv (z := 0) rfl (by decide) ?_
                refine w_pushI rfl ?_
                refine w_iaddv (z := 60) rfl (by decide) ?_
                refine w_icmp_ge rfl (fun h => absurd h (by decide)) (fun _ => ?_)
                refine w_aload rfl rfl ?_
                refine w_getR (r := 85) rfl rfl (hR _ fmR_50_60 (by decide)) ?_
                refine w_iload rfl rfl ?_
                refine w_pushL rfl ?_
                refine w_lastv (j := 39) rfl rfl (by decide) (by unfold vp_in; decide) rfl ?_
                refine w_iincv (z := 40) rfl rfl (by decide) rfl ?_
                refine w_goto rfl ?_
                refine w_iload rfl rfl ?_
                refine w_pushI rfl ?_
                refine w_iload rfl rfl ?_
                refine w_topv (z := 0) (by decide) ?_
                refine w_imulv (z := 0) rfl (by decide) ?_
                refine w_pushI rfl ?_
                refine w_iaddv (z := 60) rfl (by decide) ?_
                refine w_icmp_ge rfl (fun h => absurd h (by decide)) (fun _ => ?_)
                refine w_aload rfl rfl ?_
                refine w_getR (r := 85) rfl rfl (hR _ fmR_50_60 (by decide)) ?_
                refine w_iload rfl rfl ?_
                refine w_pushL rfl ?_
                refine w_lastv (j := 40) rfl rfl (by decide) (by unfold vp_in; decide) rfl ?_
                refine w_iincv (z := 41) rfl rfl (by decide) rfl ?_
                refine w_goto rfl ?_
                refine w_iload rfl rfl ?_
                refine w_pushI rfl ?_
                refine w_iload rfl rfl ?_
                refine w_topv (z := 0) (by decide) ?_
                refine w_imulv (z := 0) rfl (by decide) ?_
                refine w_pushI rfl ?_
                refine w_iaddv (z := 60) rfl (by decide) ?_
                refine w_icmp_ge rfl (fun h => absurd h (by decide)) (fun _ => ?_)
                refine w_aload rfl rfl ?_
                refine w_getR (r := 85) rfl rfl (hR _ fmR_50_60 (by decide)) ?_
                refine w_iload rfl rfl ?_
                refine w_pushL rfl ?_
                refine w_lastv (j := 41) rfl rfl (by decide) (by unfold vp_in; decide) rfl ?_
                refine w_iincv (z := 42) rfl rfl (by decide) rfl ?_
                refine w_goto rfl ?_
                refine w_iload rfl rfl ?_
                refine w_pushI rfl ?_
                refine w_iload rfl rfl ?_
                refine w_topv (z := 0) (by decide) ?_
                refine w_imulv (z := 0) rfl (by decide) ?_
                refine w_pushI rfl ?_
                refine w_iaddv (z := 60) rfl (by decide) ?_
                refine w_icmp_ge rfl (fun h => absurd h (by decide)) (fun _ => ?_)
                refine w_aload rfl rfl ?_
                refine w_getR (r := 85) rfl rfl (hR _ fmR_50_60 (by decide)) ?_
                refine w_iload rfl rfl ?_
                refine w_pushL rfl ?_
                refine w_lastv (j := 42) rfl rfl (by decide) (by unfold vp_in; decide) rfl ?_
                refine w_iincv (z := 43) rfl rfl (by decide) rfl ?_
                refine w_goto rfl ?_
                refine w_iload rfl rfl ?_
                refine w_pushI rfl ?_
                refine w_iload rfl rfl ?_
                refine w_topv (z := 0) (by decide) ?_
                refine w_imulv (z := 0) rfl (by decide) ?_
                refine w_pushI rfl ?_
                refine w_iaddv (z := 60) rfl (by decide) ?_
                refine w_icmp_ge rfl (fun h => absurd h (by decide)) (fun _ => ?_)
                refine w_aload rfl rfl ?_
                refine w_getR (r := 85) rfl rfl (hR _ fmR_50_60 (by decide)) ?_
                refine w_iload rfl rfl ?_
                refine w_pushL rfl ?_
                refine w_lastv (j := 43) rfl rfl (by decide) (by unfold vp_in; decide) rfl ?_
                refine w_iincv (z := 44) rfl rfl (by decide) rfl ?_
                refine w_goto rfl ?_
                refine w_iload rfl rfl ?_
                refine w_pushI rfl ?_
                refine w_iload rfl rfl ?_
                refine w_topv (z := 0) (by decide) ?_
                refine w_imulv (z := 0) rfl (by decide) ?_
                refine w_pushI rfl ?_
                refine w_iaddv (z := 60) rfl (by decide) ?_
                refine w_icmp_ge rfl (fun h => absurd h (by decide)) (fun _ => ?_)
                refine w_aload rfl rfl ?_
                refine w_getR (r := 85) rfl rfl (hR _ fmR_50_60 (by decide)) ?_
                refine w_iload rfl rfl ?_
                refine w_pushL rfl ?_
                refine w_lastv (j := 44) rfl rfl (by decide) (by unfold vp_in; decide) rfl ?_
                refine w_iincv (z := 45) rfl rfl (by decide) rfl ?_
                refine w_goto rfl ?_
                refine w_iload rfl rfl ?_
                refine w_pushI rfl ?_
                refine w_iload rfl rfl ?_
                refine w_topv (z := 0) (by decide) ?_
                refine w_imulv (z := 0) rfl (by decide) ?_
                refine w_pushI rfl ?_
                refine w_iaddv (z := 60) rfl (by decide) ?_
                refine w_icmp_ge rfl (fun h => absurd h (by decide)) (fun _ => ?_)
                refine w_aload rfl rfl ?_
                refine w_getR (r := 85) rfl rfl (hR _ fmR_50_60 (by decide)) ?_
                refine w_iload rfl rfl ?_
                refine w_pushL rfl ?_
                refine w_lastv (j := 45) rfl rfl (by decide) (by unfold vp_in; decide) rfl ?_
                refine w_iincv (z := 46) rfl rfl (by decide) rfl ?_
                refine w_goto rfl ?_
                refine w_iload rfl rfl ?_
                refine w_pushI rfl ?_
                refine w_iload rfl rfl ?_
                refine w_topv (z := 0) (by decide) ?_
                refine w_imulv (z := 0) rfl (by decide) ?_
                refine w_pushI rfl ?_
                refine w_iaddv (z := 60) rfl (by decide) ?_
                refine w_icmp_ge rfl (fun h => absurd h (by decide)) (fun _ => ?_)
                refine w_aload rfl rfl ?_
                refine w_getR (r := 85) rfl rfl (hR _ fmR_50_60 (by decide)) ?_
                refine w_iload rfl rfl ?_
                refine w_pushL rfl ?_
                refine w_lastv (j := 46) rfl rfl (by decide) (by unfold vp_in; decide) rfl ?_
                refine w_iincv (z := 47) rfl rfl (by decide) rfl ?_
                refine w_goto rfl ?_
                refine w_iload rfl rfl ?_
                refine w_pushI rfl ?_
                refine w_iload rfl rfl ?_
                refine w_topv (z := 0) (by decide) ?_
                refine w_imulv (z := 0) rfl (by decide) ?_
                refine w_pushI rfl ?_
                refine w_iaddv (z := 60) rfl (by decide) ?_
                refine w_icmp_ge rfl (fun h => absurd h (by decide)) (fun _ => ?_)
                refine w_aload rfl rfl ?_
                refine w_getR (r := 85) rfl rfl (hR _ fmR_50_60 (by decide)) ?_
                refine w_iload rfl rfl ?_
                refine w_pushL rfl ?_
                refine w_lastv (j := 47) rfl rfl (by decide) (by unfold vp_in; decide) rfl ?_
                refine w_iincv (z := 48) rfl rfl (by decide) rfl ?_
                refine w_goto rfl ?_
                refine w_iload rfl rfl ?_
                refine w_pushI rfl ?_
                refine w_iload rfl rfl ?_
                refine w_topv (z := 0) (by decide) ?_
                refine w_imulv (z := 0) rfl (by decide) ?_
                refine w_pushI rfl ?_
                refine w_iaddv (z := 60) rfl (by decide) ?_
                refine w_icmp_ge rfl (fun h => absurd h (by decide)) (fun _ => ?_)
                refine w_aload rfl rfl ?_
                refine w_getR (r := 85) rfl rfl (hR _ fmR_50_60 (by decide)) ?_
                refine w_iload rfl rfl ?_
                refine w_pushL rfl ?_
                refine w_lastv (j := 48) rfl rfl (by decide) (by unfold vp_in; decide) rfl ?_
                refine w_iincv (z := 49) rfl rfl (by decide) rfl ?_
                refine w_goto rfl ?_
                refine w_iload rfl rfl ?_
                refine w_pushI rfl ?_
                refine w_iload rfl rfl ?_
                refine w_topv (z := 0) (by decide) ?_
                refine w_imulv (z := 0) rfl (by decide) ?_
                refine w_pushI rfl ?_
                refine w_iaddv (z := 60) rfl (by decide) ?_
                refine w_icmp_ge rfl (fun h => absurd h (by decide)) (fun _ => ?_)
                refine w_aload rfl rfl ?_
                refine w_getR (r := 85) rfl rfl (hR _ fmR_50_60 (by decide)) ?_
                refine w_iload rfl rfl ?_
                refine w_pushL rfl ?_
                refine w_lastv (j := 49) rfl rfl (by decide) (by unfold vp_in; decide) rfl ?_
                refine w_iincv (z := 50) rfl rfl (by decide) rfl ?_
                refine w_goto rfl ?_
                refine w_iload rfl rfl ?_
                refine w_pushI rfl ?_
                refine w_iload rfl rfl ?_
                refine w_topv (z := 0) (by decide) ?_
                refine w_imulv (z := 0) rfl (by decide) ?_
                refine w_pushI rfl ?_
                refine w_iaddv (z := 60) rfl (by decide) ?_
                refine w_icmp_ge rfl (fun h => absurd h (by decide)) (fun _ => ?_)
                refine w_aload rfl rfl ?_
                refine w_getR (r := 85) rfl rfl (hR _ fmR_50_60 (by decide)) ?_
                refine w_iload rfl rfl ?_
                refine w_pushL rfl ?_
                refine w_lastv (j := 50) rfl rfl (by decide) (by unfold vp_in; decide) rfl ?_
                refine w_iincv (z := 51) rfl rfl (by decide) rfl ?_
                refine w_goto rfl ?_
                refine w_iload rfl rfl ?_
                refine w_pushI rfl ?_
                refine w_iload rfl rfl ?_
                refine w_topv (z := 0) (by decide) ?_
                refine w_imulv (z := 0) rfl (by decide) ?_
                refine w_pushI rfl ?_
                refine w_iaddv (z := 60) rfl (by decide) ?_
                refine w_icmp_ge rfl (fun h => absurd h (by decide)) (fun _ => ?_)
                refine w_aload rfl rfl ?_
                refine w_getR (r := 85) rfl rfl (hR _ fmR_50_60 (by decide)) ?_
                refine w_iload rfl rfl ?_
                refine w_pushL rfl ?_
                refine w_lastv (j := 51) rfl rfl (by decide) (by unfold vp_in; decide) rfl ?_
                refine w_iincv (z := 52) rfl rfl (by decide) rfl ?_
                refine w_goto rfl ?_
                refine w_iload rfl rfl ?_
                refine w_pushI rfl ?_
                refine w_iload rfl rfl ?_
                refine w_topv (z := 0) (by decide) ?_
                refine w_imulv (z := 0) rfl (by decide) ?_
                refine w_pushI rfl ?_
                refine w_iaddv (z := 60) rfl (by decide) ?_
                refine w_icmp_ge rfl (fun h => absurd h (by decide)) (fun _ => ?_)
                refine w_aload rfl rfl ?_
                refine w_getR (r := 85) rfl rfl (hR _ fmR_50_60 (by decide)) ?_
                refine w_iload rfl rfl ?_
                refine w_pushL rfl ?_
                refine w_lastv (j := 52) rfl rfl (by decide) (by unfold vp_in; decide) rfl ?_
                refine w_iincv (z := 53) rfl rfl (by decide) rfl ?_
                refine w_goto rfl ?_
                refine w_iload rfl rfl ?_
                refine w_pushI rfl ?_
                refine w_iload rfl rfl ?_
                refine w_topv (z := 0) (by decide) ?_
                refine w_imulv (z := 0) rfl (by decide) ?_
                refine w_pushI rfl ?_
                refine w_iaddv (z := 60) rfl (by decide) ?_
                refine w_icmp_ge rfl (fun h => absurd h (by decide)) (fun _ => ?_)
                refine w_aload rfl rfl ?_
                refine w_getR (r := 85) rfl rfl (hR _ fmR_50_60 (by decide)) ?_
                refine w_iload rfl rfl ?_
                refine w_pushL rfl ?_
                refine w_lastv (j := 53) rfl rfl (by decide) (by unfold vp_in; decide) rfl ?_
                refine w_iincv (z := 54) rfl rfl (by decide) rfl ?_
                refine w_goto rfl ?_
                refine w_iload rfl rfl ?_
                refine w_pushI rfl ?_
                refine w_iload rfl rfl ?_
                refine w_topv (z := 0) (by decide) ?_
                refine w_imulv (z := 0) rfl (by decide) ?_
                refine w_pushI rfl ?_
                refine w_iaddv (z := 60) rfl (by decide) ?_
                refine w_icmp_ge rfl (fun h => absurd h (by decide)) (fun _ => ?_)
                refine w_aload rfl rfl ?_
                refine w_getR (r := 85) rfl rfl (hR _ fmR_50_60 (by decide)) ?_
                refine w_iload rfl rfl ?_
                refine w_pushL rfl ?_
                refine w_lastv (j := 54) rfl rfl (by decide) (by unfold vp_in; decide) rfl ?_
                refine w_iincv (z := 55) rfl rfl (by decide) rfl ?_
                refine w_goto rfl ?_
                refine w_iload rfl rfl ?_
                refine w_pushI rfl ?_
                refine w_iload rfl rfl ?_
                refine w_topv (z := 0) (by decide) ?_
                refine w_imulv (z := 0) rfl (by decide) ?_
                refine w_pushI rfl ?_
                refine w_iaddv (z := 60) rfl (by decide) ?_
                refine w_icmp_ge rfl (fun h => absurd h (by decide)) (fun _ => ?_)
                refine w_aload rfl rfl ?_
                refine w_getR (r := 85) rfl rfl (hR _ fmR_50_60 (by decide)) ?_
                refine w_iload rfl rfl ?_
                refine w_pushL rfl ?_
                refine w_lastv (j := 55) rfl rfl (by decide) (by unfold vp_in; decide) rfl ?_
                refine w_iincv (z := 56) rfl rfl (by decide) rfl ?_
                refine w_goto rfl ?_
                refine w_iload rfl rfl ?_
                refine w_pushI rfl ?_
                refine w_iload rfl rfl ?_
                refine w_topv (z := 0) (by decide) ?_
                refine w_imulv (z := 0) rfl (by decide) ?_
                refine w_pushI rfl ?_
                refine w_iaddv (z := 60) rfl (by decide) ?_
                refine w_icmp_ge rfl (fun h => absurd h (by decide)) (fun _ => ?_)
                refine w_aload rfl rfl ?_
                refine w_getR (r := 85) rfl rfl (hR _ fmR_50_60 (by decide)) ?_
                refine w_iload rfl rfl ?_
                refine w_pushL rfl ?_
                refine w_lastv (j := 56) rfl rfl (by decide) (by unfold vp_in; decide) rfl ?_
                refine w_iincv (z := 57) rfl rfl (by decide) rfl ?_
                refine w_goto rfl ?_
                refine w_iload rfl rfl ?_
                refine w_pushI rfl ?_
                refine w_iload rfl rfl ?_
                refine w_topv (z := 0) (by decide) ?_
                refine w_imulv (z := 0) rfl (by decide) ?_
                refine w_pushI rfl ?_
                refine w_iaddv (z := 60) rfl (by decide) ?_
                refine w_icmp_ge rfl (fun h => absurd h (by decide)) (fun _ => ?_)
                refine w_aload rfl rfl ?_
                refine w_getR (r := 85) rfl rfl (hR _ fmR_50_60 (by decide)) ?_
                refine w_iload rfl rfl ?_
                refine w_pushL rfl ?_
                refine w_lastv (j := 57) rfl rfl (by decide) (by unfold vp_in; decide) rfl ?_
                refine w_iincv (z := 58) rfl rfl (by decide) rfl ?_
                refine w_goto rfl ?_
                refine w_iload rfl rfl ?_
                refine w_pushI rfl ?_
                refine w_iload rfl rfl ?_
                refine w_topv (z := 0) (by decide) ?_
                refine w_imulv (z := 0) rfl (by decide) ?_
                refine w_pushI rfl ?_
                refine w_iaddv (z := 60) rfl (by decide) ?_
                refine w_icmp_ge rfl (fun h => absurd h (by decide)) (fun _ => ?_)
                refine w_aload rfl rfl ?_
                refine w_getR (r := 85) rfl rfl (hR _ fmR_50_60 (by decide)) ?_
                refine w_iload rfl rfl ?_
                refine w_pushL rfl ?_
                refine w_lastv (j := 58) rfl rfl (by decide) (by unfold vp_in; decide) rfl ?_
                refine w_iincv (z := 59) rfl rfl (by decide) rfl ?_
                refine w_goto rfl ?_
                refine w_iload rfl rfl ?_
                refine w_pushI rfl ?_
                refine w_iload rfl rfl ?_
                refine w_topv (z := 0) (by decide) ?_
                refine w_imulv (z := 0) rfl (by decide) ?_
                refine w_pushI rfl ?_
                refine w_iaddv (z := 60) rfl (by decide) ?_
                refine w_icmp_ge rfl (fun h => absurd h (by decide)) (fun _ => ?_)
                refine w_aload rfl rfl ?_
                refine w_getR (r := 85) rfl rfl (hR _ fmR_50_60 (by decide)) ?_
                refine w_iload rfl rfl ?_
                refine w_pushL rfl ?_
                refine w_lastv (j := 59) rfl rfl (by decide) (by unfold vp_in; decide) rfl ?_
                refine w_iincv (z := 60) rfl rfl (by decide) rfl ?_
                refine w_goto rfl ?_
                refine w_iload rfl rfl ?_
                refine w_pushI rfl ?_
                refine w_iload rfl rfl ?_
                refine w_topv (z := 0) (by decide) ?_
                refine w_imulv (z := 0) rfl (by decide) ?_
                refine w_pushI rfl ?_
                refine w_iaddv (z := 60) rfl (by decide) ?_
                refine w_icmp_ge rfl (fun _ => ?_) (fun h => absurd (by decide) h)
                refine w_pushI rfl ?_
                refine w_iret rfl (Or.inl rfl) ?_
                exact congrArg (fun v => some (Value.int v)) (show (1 : Int32) = f1_row (0) b c by have e0 : (0 : Int32).toInt = 0 := rfl; exact ite_eq_of (fun _ => ite_eq_of (fun hc => absurd hc (by omega)) (fun _ => rfl)) (fun hc => absurd (by omega) hc))
              · obtain rfl : a = 1 := i_is hs7 (by decide)
                refine w_iastv (j := 1) rfl rfl (by decide) (by unfold vp_in; decide) rfl ?_
                refine w_aload rfl rfl ?_
                refine w_getR (r := 84) rfl rfl (hR _ fmR_50_59 (by decide)) ?_
                refine w_iload rfl rfl ?_
                refine w_topv (z := 1) (by decide) ?_
                refine w_iload rfl rfl ?_
                refine w_iastv (j := 1) rfl rfl (by decide) (by unfold vp_in; decide) rfl ?_
                refine w_pushI rfl ?_
                refine w_iload rfl rfl ?_
                refine w_topv (z := 1) (by decide) ?_
                refine w_imulv (z := 60) rfl (by decide) ?_
                refine w_istore rfl rfl ?_
                refine w_iload rfl rfl ?_
                refine w_pushI rfl ?_
                refine w_iload rfl rfl ?_
                refine w_topv (z := 1) (by decide) ?_
                refine w_imulv (z := 60) rfl (by decide) ?_
                refine w_pushI rfl ?_
                refine w_iaddv (z := 120) rfl (by decide) ?_
                refine w_icmp_ge rfl (fun h => absurd h (by decide)) (fun _ => ?_)
                refine w_aload rfl rfl ?_
                refine w_getR (r := 85) rfl rfl (hR _ fmR_50_60 (by decide)) ?_
                refine w_iload rfl rfl ?_
                refine w_pushL rfl ?_
                refine w_lastv (j := 60) rfl rfl (by decide) (by unfold vp_in; decide) rfl ?_
                refine w_iincv (z := 61) rfl rfl (by decide) rfl ?_
                refine w_goto rfl ?_
                refine w_iload rfl rfl ?_
                refine w_pushI rfl ?_
                refine w_iload rfl rfl ?_
                refine w_topv (z := 1) (by decide) ?_
                refine w_imulv (z := 60) rfl (by decide) ?_
                refine w_pushI rfl ?_
                refine w_iaddv (z := 120) rfl (by decide) ?_
                refine w_icmp_ge rfl (fun h => absurd h (by decide)) (fun _ => ?_)
                refine w_aload rfl rfl ?_
                refine w_getR (r := 85) rfl rfl (hR _ fmR_50_60 (by decide)) ?_
                refine w_iload rfl rfl ?_
                refine w_pushL rfl ?_
                refine w_lastv (j := 61) rfl rfl (by decide) (by unfold vp_in; decide) rfl ?_
                refine w_iincv (z := 62) rfl rfl (by decide) rfl ?_
                refine w_goto rfl ?_
                refine w_iload rfl rfl ?_
                refine w_pushI rfl ?_
                refine w_iload rfl rfl ?_
                refine w_topv (z := 1) (by decide) ?_
                refine w_imulv (z := 60) rfl (by decide) ?_
                refine w_pushI rfl ?_
                refine w_iaddv (z := 120) rfl (by decide) ?_
                refine w_icmp_ge rfl (fun h => absurd h (by decide)) (fun _ => ?_)
                refine w_aload rfl rfl ?_
                refine w_getR (r := 85) rfl rfl (hR _ fmR_50_60 (by decide)) ?_
                refine w_iload rfl rfl ?_
                refine w_pushL rfl ?_
                refine w_lastv (j := 62) rfl rfl (by decide) (by unfold vp_in; decide) rfl ?_
                refine w_iincv (z := 63) rfl rfl (by decide) rfl ?_
                refine w_goto rfl ?_
                refine w_iload rfl rfl ?_
                refine w_pushI rfl ?_
                refine w_iload rfl rfl ?_
                refine w_topv (z := 1) (by decide) ?_
                refine w_imulv (z := 60) rfl (by decide) ?_
                refine w_pushI rfl ?_
                refine w_iaddv (z := 120) rfl (by decide) ?_
                refine w_icmp_ge rfl (fun h => absurd h (by decide)) (fun _ => ?_)
                refine w_aload rfl rfl ?_
                refine w_getR (r := 85) rfl rfl (hR _ fmR_50_60 (by decide)) ?_
                refine w_iload rfl rfl ?_
                refine w_pushL rfl ?_
                refine w_lastv (j := 63) rfl rfl (by decide) (by unfold vp_in; decide) rfl ?_
                refine w_iincv (z := 64) rfl rfl (by decide) rfl ?_
                refine w_goto rfl ?_
                refine w_iload rfl rfl ?_
                refine w_pushI rfl ?_
                refine w_iload rfl rfl ?_
                refine w_topv (z := 1) (by decide) ?_
                refine w_imulv (z := 60) rfl (by decide) ?_
                refine w_pushI rfl ?_
                refine w_iaddv (z := 120) rfl (by decide) ?_
                refine w_icmp_ge rfl (fun h => absurd h (by decide)) (fun _ => ?_)
                refine w_aload rfl rfl ?_
                refine w_getR (r := 85) rfl rfl (hR _ fmR_50_60 (by decide)) ?_
                refine w_iload rfl rfl ?_
                refine w_pushL rfl ?_
                refine w_lastv (j := 64) rfl rfl (by decide) (by unfold vp_in; decide) rfl ?_
                refine w_iincv (z := 65) rfl rfl (by decide) rfl ?_
                refine w_goto rfl ?_
                refine w_iload rfl rfl ?_
                refine w_pushI rfl ?_
                refine w_iload rfl rfl ?_
                refine w_topv (z := 1) (by decide) ?_
                refine w_imulv (z := 60) rfl (by decide) ?_
                refine w_pushI rfl ?_
                refine w_iaddv (z := 120) rfl (by decide) ?_
                refine w_icmp_ge rfl (fun h => absurd h (by decide)) (fun _ => ?_)
                refine w_aload rfl rfl ?_
                refine w_getR (r := 85) rfl rfl (hR _ fmR_50_60 (by decide)) ?_
                refine w_iload rfl rfl ?_
                refine w_pushL rfl ?_
                refine w_lastv (j := 65) rfl rfl (by decide) (by unfold vp_in; decide) rfl ?_
                refine w_iincv (z := 66) rfl rfl (by decide) rfl ?_
                refine w_goto rfl ?_
                refine w_iload rfl rfl ?_
                refine w_pushI rfl ?_
                refine w_iload rfl rfl ?_
                refine w_topv (z := 1) (by decide) ?_
                refine w_imulv (z := 60) rfl (by decide) ?_
                refine w_pushI rfl ?_
                refine w_iaddv (z := 120) rfl (by decide) ?_
                refine w_icmp_ge rfl (fun h => absurd h (by decide)) (fun _ => ?_)
                refine w_aload rfl rfl ?_
                refine w_getR (r := 85) rfl rfl (hR _ fmR_50_60 (by decide)) ?_
                refine w_iload rfl rfl ?_
                refine w_pushL rfl ?_
                refine w_lastv (j := 66) rfl rfl (by decide) (by unfold vp_in; decide) rfl ?_
                refine w_iincv (z := 67) rfl rfl (by decide) rfl ?_
                refine w_goto rfl ?_
                refine w_iload rfl rfl ?_
                refine w_pushI rfl ?_
                refine w_iload rfl rfl ?_
                refine w_topv (z := 1) (by decide) ?_
                refine w_imulv (z := 60) rfl (by decide) ?_
                refine w_pushI rfl ?_
                refine w_iaddv (z := 120) rfl (by decide) ?_
                refine w_icmp_ge rfl (fun h => absurd h (by decide)) (fun _ => ?_)
                refine w_aload rfl rfl ?_
                refine w_getR (r := 85) rfl rfl (hR _ fmR_50_60 (by decide)) ?_
                refine w_iload rfl rfl ?_
                refine w_pushL rfl ?_
                refine w_lastv (j := 67) rfl rfl (by decide) (by unfold vp_in; decide) rfl ?_
                refine w_iincv (z := 68) rfl rfl (by decide) rfl ?_
                refine w_goto rfl ?_
                refine w_iload rfl rfl ?_
                refine w_pushI rfl ?_
                refine w_iload rfl rfl ?_
                refine w_topv (z := 1) (by decide) ?_
                refine w_imulv (z := 60) rfl (by decide) ?_
                refine w_pushI rfl ?_
                refine w_iaddv (z := 120) rfl (by decide) ?_
                refine w_icmp_ge rfl (fun h => absurd h (by decide)) (fun _ => ?_)
                refine w_aload rfl rfl ?_
                refine w_getR (r := 85) rfl rfl (hR _ fmR_50_60 (by decide)) ?_
                refine w_iload rfl rfl ?_
                refine w_pushL rfl ?_
                refine w_lastv (j := 68) rfl rfl (by decide) (by unfold vp_in; decide) rfl ?_
                refine w_iincv (z := 69) rfl rfl (by decide) rfl ?_
                refine w_goto rfl ?_
                refine w_iload rfl rfl ?_
                refine w_pushI rfl ?_
                refine w_iload rfl rfl ?_
                refine w_topv (z := 1) (by decide) ?_
                refine w_imulv (z := 60) rfl (by decide) ?_
                refine w_pushI rfl ?_
                refine w_iaddv (z := 120) rfl (by decide) ?_
                refine w_icmp_ge rfl (fun h => absurd h (by decide)) (fun _ => ?_)
                refine w_aload rfl rfl ?_
                refine w_getR (r := 85) rfl rfl (hR _ fmR_50_60 (by decide)) ?_
                refine w_iload rfl rfl ?_
                refine w_pushL rfl ?_
                refine w_lastv (j := 69) rfl rfl (by decide) (by unfold vp_in; decide) rfl ?_
                refine w_iincv (z := 70) rfl rfl (by decide) rfl ?_
                refine w_goto rfl ?_
                refine w_iload rfl rfl ?_
                refine w_pushI rfl ?_
                refine w_iload rfl rfl ?_
                refine w_topv (z := 1) (by decide) ?_
                refine w_imulv (z := 60) rfl (by decide) ?_
                refine w_pushI rfl ?_
                refine w_iaddv (z := 120) rfl (by decide) ?_
                refine w_icmp_ge rfl (fun h => absurd h (by decide)) (fun _ => ?_)
                refine w_aload rfl rfl ?_
                refine w_getR (r := 85) rfl rfl (hR _ fmR_50_60 (by decide)) ?_
                refine w_iload rfl rfl ?_
                refine w_pushL rfl ?_
                refine w_lastv (j := 70) rfl rfl (by decide) (by unfold vp_in; decide) rfl ?_
                refine w_iincv (z := 71) rfl rfl (by decide) rfl ?_
                refine w_goto rfl ?_
                refine w_iload rfl rfl ?_
                refine w_pushI rfl ?_
                refine w_iload rfl rfl ?_
                refine w_topv (z := 1) (by decide) ?_
                refine w_imulv (z := 60) rfl (by decide) ?_
                refine w_pushI rfl ?_
                refine w_iaddv (z := 120) rfl (by decide) ?_
                refine w_icmp_ge rfl (fun h => absurd h (by decide)) (fun _ => ?_)
                refine w_aload rfl rfl ?_
                refine w_getR (r := 85) rfl rfl (hR _ fmR_50_60 (by decide)) ?_
                refine w_iload rfl rfl ?_
                refine w_pushL rfl ?_
                refine w_lastv (j := 71) rfl rfl (by decide) (by unfold vp_in; decide) rfl ?_
                refine w_iincv (z := 72) rfl rfl (by decide) rfl ?_
                refine w_goto rfl ?_
                refine w_iload rfl rfl ?_
                refine w_pushI rfl ?_
                refine w_iload rfl rfl ?_
                refine w_topv (z := 1) (by decide) ?_
                refine w_imulv (z := 60) rfl (by decide) ?_
                refine w_pushI rfl ?_
                refine w_iaddv (z := 120) rfl (by decide) ?_
                refine w_icmp_ge rfl (fun h => absurd h (by decide)) (fun _ => ?_)
                refine w_aload rfl rfl ?_
                refine w_getR (r := 85) rfl rfl (hR _ fmR_50_60 (by decide)) ?_
                refine w_iload rfl rfl ?_
                refine w_pushL rfl ?_
                refine w_lastv (j := 72) rfl rfl (by decide) (by unfold vp_in; decide) rfl ?_
                refine w_iincv (z := 73) rfl rfl (by decide) rfl ?_
                refine w_goto rfl ?_
                refine w_iload rfl rfl ?_
                refine w_pushI rfl ?_
                refine w_iload rfl rfl ?_
                refine w_topv (z := 1) (by decide) ?_
                refine w_imulv (z := 60) rfl (by decide) ?_
                refine w_pushI rfl ?_
                refine w_iaddv (z := 120) rfl (by decide) ?_
                refine w_icmp_ge rfl (fun h => absurd h (by decide)) (fun _ => ?_)
                refine w_aload rfl rfl ?_
                refine w_getR (r := 85) rfl rfl (hR _ fmR_50_60 (by decide)) ?_
                refine w_iload rfl rfl ?_
                refine w_pushL rfl ?_
                refine w_lastv (j := 73) rfl rfl (by decide) (by unfold vp_in; decide) rfl ?_
                refine w_iincv (z := 74) rfl rfl (by decide) rfl ?_
                refine w_goto rfl ?_
                refine w_iload rfl rfl ?_
                refine w_pushI rfl ?_
                refine w_iload rfl rfl ?_
                refine w_topv (z := 1) (by decide) ?_
                refine w_imulv (z := 60) rfl (by decide) ?_
                refine w_pushI rfl ?_
                refine w_iaddv (z := 120) rfl (by decide) ?_
                refine w_icmp_ge rfl (fun h => absurd h (by decide)) (fun _ => ?_)
                refine w_aload rfl rfl ?_
                refine w_getR (r := 85) rfl rfl (hR _ fmR_50_60 (by decide)) ?_
                refine w_iload rfl rfl ?_
                refine w_pushL rfl ?_
                refine w_lastv (j := 74) rfl rfl (by decide) (by unfold vp_in; decide) rfl ?_
                refine w_iincv (z := 75) rfl rfl (by decide) rfl ?_
                refine w_goto rfl ?_
                refine w_iload rfl rfl ?_
                refine w_pushI rfl ?_
                refine w_iload rfl rfl ?_
                refine w_topv (z := 1) (by decide) ?_
                refine w_imulv (z := 60) rfl (by decide) ?_
                refine w_pushI rfl ?_
                refine w_iaddv (z := 120) rfl (by decide) ?_
                refine w_icmp_ge rfl (fun h => absurd h (by decide)) (fun _ => ?_)
                refine w_aload rfl rfl ?_
                refine w_getR (r := 85) rfl rfl (hR _ fmR_50_60 (by decide)) ?_
                refine w_iload rfl rfl ?_
                refine w_pushL rfl ?_
                refine w_lastv (j := 75) rfl rfl (by decide) (by unfold vp_in; decide) rfl ?_
                refine w_iincv (z := 76) rfl rfl (by decide) rfl ?_
                refine w_goto rfl ?_
                refine w_iload rfl rfl ?_
                refine w_pushI rfl ?_
                refine w_iload rfl rfl ?_
                refine w_topv (z := 1) (by decide) ?_
                refine w_imulv (z := 60) rfl (by decide) ?_
                refine w_pushI rfl ?_
                refine w_iaddv (z := 120) rfl (by decide) ?_
                refine w_icmp_ge rfl (fun h => absurd h (by decide)) (fun _ => ?_)
                refine w_aload rfl rfl ?_
                refine w_getR (r := 85) rfl rfl (hR _ fmR_50_60 (by decide)) ?_
                refine w_iload rfl rfl ?_
                refine w_pushL rfl ?_
                refine w_lastv (j := 76) rfl rfl (by decide) (by unfold vp_in; decide) rfl ?_
                refine w_iincv (z := 77) rfl rfl (by decide) rfl ?_
                refine w_goto rfl ?_
                refine w_iload rfl rfl ?_
                refine w_pushI rfl ?_
                refine w_iload rfl rfl ?_
                refine w_topv (z := 1) (by decide) ?_
                refine w_imulv (z := 60) rfl (by decide) ?_
                refine w_pushI rfl ?_
                refine w_iaddv (z := 120) rfl (by decide) ?_
                refine w_icmp_ge rfl (fun h => absurd h (by decide)) (fun _ => ?_)
                refine w_aload rfl rfl ?_
                refine w_getR (r := 85) rfl rfl (hR _ fmR_50_60 (by decide)) ?_
                refine w_iload rfl rfl ?_
                refine w_pushL rfl ?_
                refine w_lastv (j := 77) rfl rfl (by decide) (by unfold vp_in; decide) rfl ?_
                refine w_iincv (z := 78) rfl rfl (by decide) rfl ?_
                refine w_goto rfl ?_
                refine w_iload rfl rfl ?_
                refine w_pushI rfl ?_
                refine w_iload rfl rfl ?_
                refine w_topv (z := 1) (by decide) ?_
                refine w_imulv (z := 60) rfl (by decide) ?_
                refine w_pushI rfl ?_
                refine w_iaddv (z := 120) rfl (by decide) ?_
                refine w_icmp_ge rfl (fun h => absurd h (by decide)) (fun _ => ?_)
                refine w_aload rfl rfl ?_
                refine w_getR (r := 85) rfl rfl (hR _ fmR_50_60 (by decide)) ?_
                refine w_iload rfl rfl ?_
                refine w_pushL rfl ?_
                refine w_lastv (j := 78) rfl rfl (by decide) (by unfold vp_in; decide) rfl ?_
                refine w_iincv (z := 79) rfl rfl (by decide) rfl ?_
                refine w_goto rfl ?_
                refine w_iload rfl rfl ?_
                refine w_pushI rfl ?_
                refine w_iload rfl rfl ?_
                refine w_topv (z := 1) (by decide) ?_
                refine w_imulv (z := 60) rfl (by decide) ?_
                refine w_pushI rfl ?_
                refine w_iaddv (z := 120) rfl (by decide) ?_
                refine w_icmp_ge rfl (fun h => absurd h (by decide)) (fun _ => ?_)
                refine w_aload rfl rfl ?_
                refine w_getR (r := 85) rfl rfl (hR _ fmR_50_60 (by decide)) ?_
                refine w_iload rfl rfl ?_
                refine w_pushL rfl ?_
                refine w_lastv (j := 79) rfl rfl (by decide) (by unfold vp_in; decide) rfl ?_
                refine w_iincv (z := 80) rfl rfl (by decide) rfl ?_
                refine w_goto rfl ?_
                refine w_iload rfl rfl ?_
                refine w_pushI rfl ?_
                refine w_iload rfl rfl ?_
                refine w_topv (z := 1) (by decide) ?_
                refine w_imulv (z := 60) rfl (by decide) ?_
                refine w_pushI rfl ?_
                refine w_iaddv (z := 120) rfl (by decide) ?_
                refine w_icmp_ge rfl (fun h => absurd h (by decide)) (fun _ => ?_)
                refine w_aload rfl rfl ?_
                refine w_getR (r := 85) rfl rfl (hR _ fmR_50_60 (by decide)) ?_
                refine w_iload rfl rfl ?_
                refine w_pushL rfl ?_
                refine w_lastv (j := 80) rfl rfl (by decide) (by unfold vp_in; decide) rfl ?_
                refine w_iincv (z := 81) rfl rfl (by decide) rfl ?_
                refine w_goto rfl ?_
                refine w_iload rfl rfl ?_
                refine w_pushI rfl ?_
                refine w_iload rfl rfl ?_
                refine w_topv (z := 1) (by decide) ?_
                refine w_imulv (z := 60) rfl (by decide) ?_
                refine w_pushI rfl ?_
                refine w_iaddv (z := 120) rfl (by decide) ?_
                refine w_icmp_ge rfl (fun h => absurd h (by decide)) (fun _ => ?_)
                refine w_aload rfl rfl ?_
                refine w_getR (r := 85) rfl rfl (hR _ fmR_50_60 (by decide)) ?_
                refine w_iload rfl rfl ?_
                refine w_pushL rfl ?_
                refine w_lastv (j := 81) rfl rfl (by decide) (by unfold vp_in; decide) rfl ?_
                refine w_iincv (z := 82) rfl rfl (by decide) rfl ?_
                refine w_goto rfl ?_
                refine w_iload rfl rfl ?_
                refine w_pushI rfl ?_
                refine w_iload rfl rfl ?_
                refine w_topv (z := 1) (by decide) ?_
                refine w_imulv (z := 60) rfl (by decide) ?_
                refine w_pushI rfl ?_
                refine w_iaddv (z := 120) rfl (by decide) ?_
                refine w_icmp_ge rfl (fun h => absurd h (by decide)) (fun _ => ?_)
                refine w_aload rfl rfl ?_
                refine w_getR (r := 85) rfl rfl (hR _ fmR_50_60 (by decide)) ?_
                refine w_iload rfl rfl ?_
                refine w_pushL rfl ?_
                refine w_lastv (j := 82) rfl rfl (by decide) (by unfold vp_in; decide) rfl ?_
                refine w_iincv (z := 83) rfl rfl (by decide) rfl ?_
                refine w_goto rfl ?_
                refine w_iload rfl rfl ?_
                refine w_pushI rfl ?_
                refine w_iload rfl rfl ?_
                refine w_topv (z := 1) (by decide) ?_
                refine w_imulv (z := 60) rfl (by decide) ?_
                refine w_pushI rfl ?_
                refine w_iaddv (z := 120) rfl (by decide) ?_
                refine w_icmp_ge rfl (fun h => absurd h (by decide)) (fun _ => ?_)
                refine w_aload rfl rfl ?_
                refine w_getR (r := 85) rfl rfl (hR _ fmR_50_60 (by decide)) ?_
                refine w_iload rfl rfl ?_
                refine w_pushL rfl ?_
                refine w_lastv (j := 83) rfl rfl (by decide) (by unfold vp_in; decide) rfl ?_
                refine w_iincv (z := 84) rfl rfl (by decide) rfl ?_
                refine w_goto rfl ?_
                refine w_iload rfl rfl ?_
                refine w_pushI rfl ?_
                refine w_iload rfl rfl ?_
                refine w_topv (z := 1) (by decide) ?_
                refine w_imulv (z := 60) rfl (by decide) ?_
                refine w_pushI rfl ?_
                refine w_iaddv (z := 120) rfl (by decide) ?_
                refine w_icmp_ge rfl (fun h => absurd h (by decide)) (fun _ => ?_)
                refine w_aload rfl rfl ?_
                refine w_getR (r := 85) rfl rfl (hR _ fmR_50_60 (by decide)) ?_
                refine w_iload rfl rfl ?_
                refine w_pushL rfl ?_
                refine w_lastv (j := 84) rfl rfl (by decide) (by unfold vp_in; decide) rfl ?_
                refine w_iincv (z := 85) rfl rfl (by decide) rfl ?_
                refine w_goto rfl ?_
                refine w_iload rfl rfl ?_
                refine w_pushI rfl ?_
                refine w_iload rfl rfl ?_
                refine w_topv (z := 1) (by decide) ?_
                refine w_imulv (z := 60) rfl (by decide) ?_
                refine w_pushI rfl ?_
                refine w_iaddv (z := 120) rfl (by decide) ?_
                refine w_icmp_ge rfl (fun h => absurd h (by decide)) (fun _ => ?_)
                refine w_aload rfl rfl ?_
                refine w_getR (r := 85) rfl rfl (hR _ fmR_50_60 (by decide)) ?_
                refine w_iload rfl rfl ?_
                refine w_pushL rfl ?_
                refine w_lastv (j := 85) rfl rfl (by decide) (by unfold vp_in; decide) rfl ?_
                refine w_iincv (z := 86) rfl rfl (by decide) rfl ?_
                refine w_goto rfl ?_
                refine w_iload rfl rfl ?_
                refine w_pushI rfl ?_
                refine w_iload rfl rfl ?_
                refine w_topv (z := 1) (by decide) ?_
                refine w_imulv (z := 60) rfl (by decide) ?_
                refine w_pushI rfl ?_
                refine w_iaddv (z := 120) rfl (by decide) ?_
                refine w_icmp_ge rfl (fun h => absurd h (by decide)) (fun _ => ?_)
                refine w_aload rfl rfl ?_
                refine w_getR (r := 85) rfl rfl (hR _ fmR_50_60 (by decide)) ?_
                refine w_iload rfl rfl ?_
                refine w_pushL rfl ?_
                refine w_lastv (j := 86) rfl rfl (by decide) (by unfold vp_in; decide) rfl ?_
                refine w_iincv (z := 87) rfl rfl (by decide) rfl ?_
                refine w_goto rfl ?_
                refine w_iload rfl rfl ?_
                refine w_pushI rfl ?_
                refine w_iload rfl rfl ?_
                refine w_topv (z := 1) (by decide) ?_
                refine w_imulv (z := 60) rfl (by decide) ?_
                refine w_pushI rfl ?_
                refine w_iaddv (z := 120) rfl (by decide) ?_
                refine w_icmp_ge rfl (fun h => absurd h (by decide)) (fun _ => ?_)
                refine w_aload rfl rfl ?_
                refine w_getR (r := 85) rfl rfl (hR _ fmR_50_60 (by decide)) ?_
                refine w_iload rfl rfl ?_
                refine w_pushL rfl ?_
                refine w_lastv (j := 87) rfl rfl (by decide) (by unfold vp_in; decide) rfl ?_
                refine w_iincv (z := 88) rfl rfl (by decide) rfl ?_
                refine w_goto rfl ?_
                refine w_iload rfl rfl ?_
                refine w_pushI rfl ?_
                refine w_iload rfl rfl ?_
                refine w_topv (z := 1) (by decide) ?_
                refine w_imulv (z := 60) rfl (by decide) ?_
                refine w_pushI rfl ?_
                refine w_iaddv (z := 120) rfl (by decide) ?_
                refine w_icmp_ge rfl (fun h => absurd h (by decide)) (fun _ => ?_)
                refine w_aload rfl rfl ?_
                refine w_getR (r := 85) rfl rfl (hR _ fmR_50_60 (by decide)) ?_
                refine w_iload rfl rfl ?_
                refine w_pushL rfl ?_
                refine w_lastv (j := 88) rfl rfl (by decide) (by unfold vp_in; decide) rfl ?_
                refine w_iincv (z := 89) rfl rfl (by decide) rfl ?_
                refine w_goto rfl ?_
                refine w_iload rfl rfl ?_
                refine w_pushI rfl ?_
                refine w_iload rfl rfl ?_
                refine w_topv (z := 1) (by decide) ?_
                refine w_imulv (z := 60) rfl (by decide) ?_
                refine w_pushI rfl ?_
                refine w_iaddv (z := 120) rfl (by decide) ?_
                refine w_icmp_ge rfl (fun h => absurd h (by decide)) (fun _ => ?_)
                refine w_aload rfl rfl ?_
                refine w_getR (r := 85) rfl rfl (hR _ fmR_50_60 (by decide)) ?_
                refine w_iload rfl rfl ?_
                refine w_pushL rfl ?_
                refine w_lastv (j := 89) rfl rfl (by decide) (by unfold vp_in; decide) rfl ?_
                refine w_iincv (z := 90) rfl rfl (by decide) rfl ?_
                refine w_goto rfl ?_
                refine w_iload rfl rfl ?_
                refine w_pushI rfl ?_
                refine w_iload rfl rfl ?_
                refine w_topv (z := 1) (by decide) ?_
                refine w_imulv (z := 60) rfl (by decide) ?_
                refine w_pushI rfl ?_
                refine w_iaddv (z := 120) rfl (by decide) ?_
                refine w_icmp_ge rfl (fun h => absurd h (by decide)) (fun _ => ?_)
                refine w_aload rfl rfl ?_
                refine w_getR (r := 85) rfl rfl (hR _ fmR_50_60 (by decide)) ?_
                refine w_iload rfl rfl ?_
                refine w_pushL rfl ?_
                refine w_lastv (j := 90) rfl rfl (by decide) (by unfold vp_in; decide) rfl ?_
                refine w_iincv (z := 91) rfl rfl (by decide) rfl ?_
                refine w_goto rfl ?_
                refine w_iload rfl rfl ?_
                refine w_pushI rfl ?_
                refine w_iload rfl rfl ?_
                refine w_topv (z := 1) (by decide) ?_
                refine w_imulv (z := 60) rfl (by decide) ?_
                refine w_pushI rfl ?_
                refine w_iaddv (z := 120) rfl (by decide) ?_
                refine w_icmp_ge rfl (fun h => absurd h (by decide)) (fun _ => ?_)
                refine w_aload rfl rfl ?_
                refine w_getR (r := 85) rfl rfl (hR _ fmR_50_60 (by decide)) ?_
                refine w_iload rfl rfl ?_
                refine w_pushL rfl ?_
                refine w_lastv (j := 91) rfl rfl (by decide) (by unfold vp_in; decide) rfl ?_
                refine w_iincv (z := 92) rfl rfl (by decide) rfl ?_
                refine w_goto rfl ?_
                refine w_iload rfl rfl ?_
                refine w_pushI rfl ?_
                refine w_iload rfl rfl ?_
                refine w_topv (z := 1) (by decide) ?_
                refine w_imulv (z := 60) rfl (by decide) ?_
                refine w_pushI rfl ?_
                refine w_iaddv (z := 120) rfl (by decide) ?_
                refine w_icmp_ge rfl (fun h => absurd h (by decide)) (fun _ => ?_)
                refine w_aload rfl rfl ?_
                refine w_getR (r := 85) rfl rfl (hR _ fmR_50_60 (by decide)) ?_
                refine w_iload rfl rfl ?_
                refine w_pushL rfl ?_
                refine w_lastv (j := 92) rfl rfl (by decide) (by unfold vp_in; decide) rfl ?_
                refine w_iincv (z := 93) rfl rfl (by decide) rfl ?_
                refine w_goto rfl ?_
                refine w_iload rfl rfl ?_
                refine w_pushI rfl ?_
                refine w_iload rfl rfl ?_
                refine w_topv (z := 1) (by decide) ?_
                refine w_imulv (z := 60) rfl (by decide) ?_
                refine w_pushI rfl ?_
                refine w_iaddv (z := 120) rfl (by decide) ?_
                refine w_icmp_ge rfl (fun h => absurd h (by decide)) (fun _ => ?_)
                refine w_aload rfl rfl ?_
                refine w_getR (r := 85) rfl rfl (hR _ fmR_50_60 (by decide)) ?_
                refine w_iload rfl rfl ?_
                refine w_pushL rfl ?_
                refine w_lastv (j := 93) rfl rfl (by decide) (by unfold vp_in; decide) rfl ?_
                refine w_iincv (z := 94) rfl rfl (by decide) rfl ?_
                refine w_goto rfl ?_
                refine w_iload rfl rfl ?_
                refine w_pushI rfl ?_
                refine w_iload rfl rfl ?_
                refine w_topv (z := 1) (by decide) ?_
                refine w_imulv (z := 60) rfl (by decide) ?_
                refine w_pushI rfl ?_
                refine w_iaddv (z := 120) rfl (by decide) ?_
                refine w_icmp_ge rfl (fun h => absurd h (by decide)) (fun _ => ?_)
                refine w_aload rfl rfl ?_
                refine w_getR (r := 85) rfl rfl (hR _ fmR_50_60 (by decide)) ?_
                refine w_iload rfl rfl ?_
                refine w_pushL rfl ?_
                refine w_lastv (j := 94) rfl rfl (by decide) (by unfold vp_in; decide) rfl ?_
                refine w_iincv (z := 95) rfl rfl (by decide) rfl ?_
                refine w_goto rfl ?_
                refine w_iload rfl rfl ?_
                refine w_pushI rfl ?_
                refine w_iload rfl rfl ?_
                refine w_topv (z := 1) (by decide) ?_
                refine w_imulv (z := 60) rfl (by decide) ?_
                refine w_pushI rfl ?_
                refine w_iaddv (z := 120) rfl (by decide) ?_
                refine w_icmp_ge rfl (fun h => absurd h (by decide)) (fun _ => ?_)
                refine w_aload rfl rfl ?_
                refine w_getR (r := 85) rfl rfl (hR _ fmR_50_60 (by decide)) ?_
                refine w_iload rfl rfl ?_
                refine w_pushL rfl ?_
                refine w_lastv (j := 95) rfl rfl (by decide) (by unfold vp_in; decide) rfl ?_
                refine w_iincv (z := 96) rfl rfl (by decide) rfl ?_
                refine w_goto rfl ?_
                refine w_iload rfl rfl ?_
                refine w_pushI rfl ?_
                refine w_iload rfl rfl ?_
                refine w_topv (z := 1) (by decide) ?_
                refine w_imulv (z := 60) rfl (by decide) ?_
                refine w_pushI rfl ?_
                refine w_iaddv (z := 120) rfl (by decide) ?_
                refine w_icmp_ge rfl (fun h => absurd h (by decide)) (fun _ => ?_)
                refine w_aload rfl rfl ?_
                refine w_getR (r := 85) rfl rfl (hR _ fmR_50_60 (by decide)) ?_
                refine w_iload rfl rfl ?_
                refine w_pushL rfl ?_
                refine w_lastv (j := 96) rfl rfl (by decide) (by unfold vp_in; decide) rfl ?_
                refine w_iincv (z := 97) rfl rfl (by decide) rfl ?_
                refine w_goto rfl ?_
                refine w_iload rfl rfl ?_
                refine w_pushI rfl ?_
                refine w_iload rfl rfl ?_
                refine w_topv (z := 1) (by decide) ?_
                refine w_imulv (z := 60) rfl (by decide) ?_
                refine w_pushI rfl ?_
                refine w_iaddv (z := 120) rfl (by decide) ?_
                refine w_icmp_ge rfl (fun h => absurd h (by decide)) (fun _ => ?_)
                refine w_aload rfl rfl ?_
                refine w_getR (r := 85) rfl rfl (hR _ fmR_50_60 (by decide)) ?_
                refine w_iload rfl rfl ?_
                refine w_pushL rfl ?_
                refine w_lastv (j := 97) rfl rfl (by decide) (by unfold vp_in; decide) rfl ?_
                refine w_iincv (z := 98) rfl rfl (by decide) rfl ?_
                refine w_goto rfl ?_
                refine w_iload rfl rfl ?_
                refine w_pushI rfl ?_
                refine w_iload rfl rfl ?_
                refine w_topv (z := 1) (by decide) ?_
                refine w_imulv (z := 60) rfl (by decide) ?_
                refine w_pushI rfl ?_
                refine w_iaddv (z := 120) rfl (by decide) ?_
                refine w_icmp_ge rfl (fun h => absurd h (by decide)) (fun _ => ?_)
                refine w_aload rfl rfl ?_
                refine w_getR (r := 85) rfl rfl (hR _ fmR_50_60 (by decide)) ?_
                refine w_iload rfl rfl ?_
                refine w_pushL rfl ?_
                refine w_lastv (j := 98) rfl rfl (by decide) (by unfold vp_in; decide) rfl ?_
                refine w_iincv (z := 99) rfl rfl (by decide) rfl ?_
                refine w_goto rfl ?_
                refine w_iload rfl rfl ?_
                refine w_pushI rfl ?_
                refine w_iload rfl rfl ?_
                refine w_topv (z := 1) (by decide) ?_
                refine w_imulv (z := 60) rfl (by decide) ?_
                refine w_pushI rfl ?_
                refine w_iaddv (z := 120) rfl (by decide) ?_
                refine w_icmp_ge rfl (fun h => absurd h (by decide)) (fun _ => ?_)
                refine w_aload rfl rfl ?_
                refine w_getR (r := 85) rfl rfl (hR _ fmR_50_60 (by decide)) ?_
                refine w_iload rfl rfl ?_
                refine w_pushL rfl ?_
                refine w_lastv (j := 99) rfl rfl (by decide) (by unfold vp_in; decide) rfl ?_
                refine w_iincv (z := 100) rfl rfl (by decide) rfl ?_
                refine w_goto rfl ?_
                refine w_iload rfl rfl ?_
                refine w_pushI rfl ?_
                refine w_iload rfl rfl ?_
                refine w_topv (z := 1) (by decide) ?_
                refine w_imulv (z := 60) rfl (by decide) ?_
                refine w_pushI rfl ?_
                refine w_iaddv (z := 120) rfl (by decide) ?_
                refine w_icmp_ge rfl (fun h => absurd h (by decide)) (fun _ => ?_)
                refine w_aload rfl rfl ?_
                refine w_getR (r := 85) rfl rfl (hR _ fmR_50_60 (by decide)) ?_
                refine w_iload rfl rfl ?_
                refine w_pushL rfl ?_
                refine w_lastv (j := 100) rfl rfl (by decide) (by unfold vp_in; decide) rfl ?_
                refine w_iincv (z := 101) rfl rfl (by decide) rfl ?_
                refine w_goto rfl ?_
                refine w_iload rfl rfl ?_
                refine w_pushI rfl ?_
                refine w_iload rfl rfl ?_
                refine w_topv (z := 1) (by decide) ?_
                refine w_imulv (z := 60) rfl (by decide) ?_
                refine w_pushI rfl ?_
                refine w_iaddv (z := 120) rfl (by decide) ?_
                refine w_icmp_ge rfl (fun h => absurd h (by decide)) (fun _ => ?_)
                refine w_aload rfl rfl ?_
                refine w_getR (r := 85) rfl rfl (hR _ fmR_50_60 (by decide)) ?_
                refine w_iload rfl rfl ?_
                refine w_pushL rfl ?_
                refine w_lastv (j := 101) rfl rfl (by decide) (by unfold vp_in; decide) rfl ?_
                refine w_iincv (z := 102) rfl rfl (by decide) rfl ?_
                refine w_goto rfl ?_
                refine w_iload rfl rfl ?_
                refine w_pushI rfl ?_
                refine w_iload rfl rfl ?_
                refine w_topv (z := 1) (by decide) ?_
                refine w_imulv (z := 60) rfl (by decide) ?_
                refine w_pushI rfl ?_
                refine w_iaddv (z := 120) rfl (by decide) ?_
                refine w_icmp_ge rfl (fun h => absurd h (by decide)) (fun _ => ?_)
                refine w_aload rfl rfl ?_
                refine w_getR (r := 85) rfl rfl (hR _ fmR_50_60 (by decide)) ?_
                refine w_iload rfl rfl ?_
                refine w_pushL rfl ?_
                refine w_lastv (j := 102) rfl rfl (by decide) (by unfold vp_in; decide) rfl ?_
                refine w_iincv (z := 103) rfl rfl (by decide) rfl ?_
                refine w_goto rfl ?_
                refine w_iload rfl rfl ?_
                refine w_pushI rfl ?_
                refine w_iload rfl rfl ?_
                refine w_topv (z := 1) (by decide) ?_
                refine w_imulv (z := 60) rfl (by decide) ?_
                refine w_pushI rfl ?_
                refine w_iaddv (z := 120) rfl (by decide) ?_
                refine w_icmp_ge rfl (fun h => absurd h (by decide)) (fun _ => ?_)
                refine w_aload rfl rfl ?_
                refine w_getR (r := 85) rfl rfl (hR _ fmR_50_60 (by decide)) ?_
                refine w_iload rfl rfl ?_
                refine w_pushL rfl ?_
                refine w_lastv (j := 103) rfl rfl (by decide) (by unfold vp_in; decide) rfl ?_
                refine w_iincv (z := 104) rfl rfl (by decide) rfl ?_
                refine w_goto rfl ?_
                refine w_iload rfl rfl ?_
                refine w_pushI rfl ?_
                refine w_iload rfl rfl ?_
                refine w_topv (z := 1) (by decide) ?_
                refine w_imulv (z := 60) rfl (by decide) ?_
                refine w_pushI rfl ?_
                refine w_iaddv (z := 120) rfl (by decide) ?_
                refine w_icmp_ge rfl (fun h => absurd h (by decide)) (fun _ => ?_)
                refine w_aload rfl rfl ?_
                refine w_getR (r := 85) rfl rfl (hR _ fmR_50_60 (by decide)) ?_
                refine w_iload rfl rfl ?_
                refine w_pushL rfl ?_
                refine w_lastv (j := 104) rfl rfl (by decide) (by unfold vp_in; decide) rfl ?_
                refine w_iincv (z := 105) rfl rfl (by decide) rfl ?_
                refine w_goto rfl ?_
                refine w_iload rfl rfl ?_
                refine w_pushI rfl ?_
                refine w_iload rfl rfl ?_
                refine w_topv (z := 1) (by decide) ?_
                refine w_imulv (z := 60) rfl (by decide) ?_
                refine w_pushI rfl ?_
                refine w_iaddv (z := 120) rfl (by decide) ?_
                refine w_icmp_ge rfl (fun h => absurd h (by decide)) (fun _ => ?_)
                refine w_aload rfl rfl ?_
                refine w_getR (r := 85) rfl rfl (hR _ fmR_50_60 (by decide)) ?_
                refine w_iload rfl rfl ?_
                refine w_pushL rfl ?_
                refine w_lastv (j := 105) rfl rfl (by decide) (by unfold vp_in; decide) rfl ?_
                refine w_iincv (z := 106) rfl rfl (by decide) rfl ?_
                refine w_goto rfl ?_
                refine w_iload rfl rfl ?_
                refine w_pushI rfl ?_
                refine w_iload rfl rfl ?_
                refine w_topv (z := 1) (by decide) ?_
                refine w_imulv (z := 60) rfl (by decide) ?_
                refine w_pushI rfl ?_
                refine w_iaddv (z := 120) rfl (by decide) ?_
                refine w_icmp_ge rfl (fun h => absurd h (by decide)) (fun _ => ?_)
                refine w_aload rfl rfl ?_
                refine w_getR (r := 85) rfl rfl (hR _ fmR_50_60 (by decide)) ?_
                refine w_iload rfl rfl ?_
                refine w_pushL rfl ?_
                refine w_lastv (j := 106) rfl rfl (by decide) (by unfold vp_in; decide) rfl ?_
                refine w_iincv (z := 107) rfl rfl (by decide) rfl ?_
                refine w_goto rfl ?_
                refine w_iload rfl rfl ?_
                refine w_pushI rfl ?_
                refine w_iload rfl rfl ?_
                refine w_topv (z := 1) (by decide) ?_
                refine w_imulv (z := 60) rfl (by decide) ?_
                refine w_pushI rfl ?_
                refine w_iaddv (z := 120) rfl (by decide) ?_
                refine w_icmp_ge rfl (fun h => absurd h (by decide)) (fun _ => ?_)
                refine w_aload rfl rfl ?_
                refine w_getR (r := 85) rfl rfl (hR _ fmR_50_60 (by decide)) ?_
                refine w_iload rfl rfl ?_
                refine w_pushL rfl ?_
                refine w_lastv (j := 107) rfl rfl (by decide) (by unfold vp_in; decide) rfl ?_
                refine w_iincv (z := 108) rfl rfl (by decide) rfl ?_
                refine w_goto rfl ?_
                refine w_iload rfl rfl ?_
                refine w_pushI rfl ?_
                refine w_iload rfl rfl ?_
                refine w_topv (z := 1) (by decide) ?_
                refine w_imulv (z := 60) rfl (by decide) ?_
                refine w_pushI rfl ?_
                refine w_iaddv (z := 120) rfl (by decide) ?_
                refine w_icmp_ge rfl (fun h => absurd h (by decide)) (fun _ => ?_)
                refine w_aload rfl rfl ?_
                refine w_getR (r := 85) rfl rfl (hR _ fmR_50_60 (by decide)) ?_
                refine w_iload rfl rfl ?_
                refine w_pushL rfl ?_
                refine w_lastv (j := 108) rfl rfl (by decide) (by unfold vp_in; decide) rfl ?_
                refine w_iincv (z := 109) rfl rfl (by decide) rfl ?_
                refine w_goto rfl ?_
                refine w_iload rfl rfl ?_
                refine w_pushI rfl ?_
                refine w_iload rfl rfl ?_
                refine w_topv (z := 1) (by decide) ?_
                refine w_imulv (z := 60) rfl (by decide) ?_
                refine w_pushI rfl ?_
                refine w_iaddv (z := 120) rfl (by decide) ?_
                refine w_icmp_ge rfl (fun h => absurd h (by decide)) (fun _ => ?_)
                refine w_aload rfl rfl ?_
                refine w_getR (r := 85) rfl rfl (hR _ fmR_50_60 (by decide)) ?_
                refine w_iload rfl rfl ?_
                refine w_pushL rfl ?_
                refine w_lastv (j := 109) rfl rfl (by decide) (by unfold vp_in; decide) rfl ?_
                refine w_iincv (z := 110) rfl rfl (by decide) rfl ?_
                refine w_goto rfl ?_
                refine w_iload rfl rfl ?_
                refine w_pushI rfl ?_
                refine w_iload rfl rfl ?_
                refine w_topv (z := 1) (by decide) ?_
                refine w_imulv (z := 60) rfl (by decide) ?_
                refine w_pushI rfl ?_
                refine w_iaddv (z := 120) rfl (by decide) ?_
                refine w_icmp_ge rfl (fun h => absurd h (by decide)) (fun _ => ?_)
                refine w_aload rfl rfl ?_
                refine w_getR (r := 85) rfl rfl (hR _ fmR_50_60 (by decide)) ?_
                refine w_iload rfl rfl ?_
                refine w_pushL rfl ?_
                refine w_lastv (j := 110) rfl rfl (by decide) (by unfold vp_in; decide) rfl ?_
                refine w_iincv (z := 111) rfl rfl (by decide) rfl ?_
                refine w_goto rfl ?_
                refine w_iload rfl rfl ?_
                refine w_pushI rfl ?_
                refine w_iload rfl rfl ?_
                refine w_topv (z := 1) (by decide) ?_
                refine w_imulv (z := 60) rfl (by decide) ?_
                refine w_pushI rfl ?_
                refine w_iaddv (z := 120) rfl (by decide) ?_
                refine w_icmp_ge rfl (fun h => absurd h (by decide)) (fun _ => ?_)
                refine w_aload rfl rfl ?_
                refine w_getR (r := 85) rfl rfl (hR _ fmR_50_60 (by decide)) ?_
                refine w_iload rfl rfl ?_
                refine w_pushL rfl ?_
                refine w_lastv (j := 111) rfl rfl (by decide) (by unfold vp_in; decide) rfl ?_
                refine w_iincv (z := 112) rfl rfl (by decide) rfl ?_
                refine w_goto rfl ?_
                refine w_iload rfl rfl ?_
                refine w_pushI rfl ?_
                refine w_iload rfl rfl ?_
                refine w_topv (z := 1) (by decide) ?_
                refine w_imulv (z := 60) rfl (by decide) ?_
                refine w_pushI rfl ?_
                refine w_iaddv (z := 120) rfl (by decide) ?_
                refine w_icmp_ge rfl (fun h => absurd h (by decide)) (fun _ => ?_)
                refine w_aload rfl rfl ?_
                refine w_getR (r := 85) rfl rfl (hR _ fmR_50_60 (by decide)) ?_
                refine w_iload rfl rfl ?_
                refine w_pushL rfl ?_
                refine w_lastv (j := 112) rfl rfl (by decide) (by unfold vp_in; decide) rfl ?_
                refine w_iincv (z := 113) rfl rfl (by decide) rfl ?_
                refine w_goto rfl ?_
                refine w_iload rfl rfl ?_
                refine w_pushI rfl ?_
                refine w_iload rfl rfl ?_
                refine w_topv (z := 1) (by decide) ?_
                refine w_imulv (z := 60) rfl (by decide) ?_
                refine w_pushI rfl ?_
                refine w_iaddv (z := 120) rfl (by decide) ?_
                refine w_icmp_ge rfl (fun h => absurd h (by decide)) (fun _ => ?_)
                refine w_aload rfl rfl ?_
                refine w_getR (r := 85) rfl rfl (hR _ fmR_50_60 (by decide)) ?_
                refine w_iload rfl rfl ?_
                refine w_pushL rfl ?_
                refine w_lastv (j := 113) rfl rfl (by decide) (by unfold vp_in; decide) rfl ?_
                refine w_iincv (z := 114) rfl rfl (by decide) rfl ?_
                refine w_goto rfl ?_
                refine w_iload rfl rfl ?_
                refine w_pushI rfl ?_
                refine w_iload rfl rfl ?_
                refine w_topv (z := 1) (by decide) ?_
                refine w_imulv (z := 60) rfl (by decide) ?_
                refine w_pushI rfl ?_
                refine w_iaddv (z := 120) rfl (by decide) ?_
                refine w_icmp_ge rfl (fun h => absurd h (by decide)) (fun _ => ?_)
                refine w_aload rfl rfl ?_
                refine w_getR (r := 85) rfl rfl (hR _ fmR_50_60 (by decide)) ?_
                refine w_iload rfl rfl ?_
                refine w_pushL rfl ?_
                refine w_lastv (j := 114) rfl rfl (by decide) (by unfold vp_in; decide) rfl ?_
                refine w_iincv (z := 115) rfl rfl (by decide) rfl ?_
                refine w_goto rfl ?_
                refine w_iload rfl rfl ?_
                refine w_pushI rfl ?_
                refine w_iload rfl rfl ?_
                refine w_topv (z := 1) (by decide) ?_
                refine w_imulv (z := 60) rfl (by decide) ?_
                refine w_pushI rfl ?_
                refine w_iaddv (z := 120) rfl (by decide) ?_
                refine w_icmp_ge rfl (fun h => absurd h (by decide)) (fun _ => ?_)
                refine w_aload rfl rfl ?_
                refine w_getR (r := 85) rfl rfl (hR _ fmR_50_60 (by decide)) ?_
                refine w_iload rfl rfl ?_
                refine w_pushL rfl ?_
                refine w_lastv (j := 115) rfl rfl (by decide) (by unfold vp_in; decide) rfl ?_
                refine w_iincv (z := 116) rfl rfl (by decide) rfl ?_
                refine w_goto rfl ?_
                refine w_iload rfl rfl ?_
                refine w_pushI rfl ?_
                refine w_iload rfl rfl ?_
                refine w_topv (z := 1) (by decide) ?_
                refine w_imulv (z := 60) rfl (by decide) ?_
                refine w_pushI rfl ?_
                refine w_iaddv (z := 120) rfl (by decide) ?_
                refine w_icmp_ge rfl (fun h => absurd h (by decide)) (fun _ => ?_)
                refine w_aload rfl rfl ?_
                refine w_getR (r := 85) rfl rfl (hR _ fmR_50_60 (by decide)) ?_
                refine w_iload rfl rfl ?_
                refine w_pushL rfl ?_
                refine w_lastv (j := 116) rfl rfl (by decide) (by unfold vp_in; decide) rfl ?_
                refine w_iincv (z := 117) rfl rfl (by decide) rfl ?_
                refine w_goto rfl ?_
                refine w_iload rfl rfl ?_
                refine w_pushI rfl ?_
                refine w_iload rfl rfl ?_
                refine w_topv (z := 1) (by decide) ?_
                refine w_imulv (z := 60) rfl (by decide) ?_
                refine w_pushI rfl ?_
                refine w_iaddv (z := 120) rfl (by decide) ?_
                refine w_icmp_ge rfl (fun h => absurd h (by decide)) (fun _ => ?_)
                refine w_aload rfl rfl ?_
                refine w_getR (r := 85) rfl rfl (hR _ fmR_50_60 (by decide)) ?_
                refine w_iload rfl rfl ?_
                refine w_pushL rfl ?_
                refine w_lastv (j := 117) rfl rfl (by decide) (by unfold vp_in; decide) rfl ?_
                refine w_iincv (z := 118) rfl rfl (by decide) rfl ?_
                refine w_goto rfl ?_
                refine w_iload rfl rfl ?_
                refine w_pushI rfl ?_
                refine w_iload rfl rfl ?_
                refine w_topv (z := 1) (by decide) ?_
                refine w_imulv (z := 60) rfl (by decide) ?_
                refine w_pushI rfl ?_
                refine w_iaddv (z := 120) rfl (by decide) ?_
                refine w_icmp_ge rfl (fun h => absurd h (by decide)) (fun _ => ?_)
                refine w_aload rfl rfl ?_
                refine w_getR (r := 85) rfl rfl (hR _ fmR_50_60 (by decide)) ?_
                refine w_iload rfl rfl ?_
                refine w_pushL rfl ?_
                refine w_lastv (j := 118) rfl rfl (by decide) (by unfold vp_in; decide) rfl ?_
                refine w_iincv (z := 119) rfl rfl (by decide) rfl ?_
                refine w_goto rfl ?_
                refine w_iload rfl rfl ?_
                refine w_pushI rfl ?_
                refine w_iload rfl rfl ?_
                refine w_topv (z := 1) (by decide) ?_
                refine w_imulv (z := 60) rfl (by decide) ?_
                refine w_pushI rfl ?_
                refine w_iaddv (z := 120) rfl (by decide) ?_
                refine w_icmp_ge rfl (fun h => absurd h (by decide)) (fun _ => ?_)
                refine w_aload rfl rfl ?_
                refine w_getR (r := 85) rfl rfl (hR _ fmR_50_60 (by decide)) ?_
                refine w_iload rfl rfl ?_
                refine w_pushL rfl ?_
                refine w_lastv (j := 119) rfl rfl (by decide) (by unfold vp_in; decide) rfl ?_
                refine w_iincv (z := 120) rfl rfl (by decide) rfl ?_
                refine w_goto rfl ?_
                refine w_iload rfl rfl ?_
                refine w_pushI rfl ?_
                refine w_iload rfl rfl ?_
                refine w_topv (z := 1) (by decide) ?_
                refine w_imulv (z := 60) rfl (by decide) ?_
                refine w_pushI rfl ?_
                refine w_iaddv (z := 120) rfl (by decide) ?_
                refine w_icmp_ge rfl (fun _ => ?_) (fun h => absurd (by decide) h)
                refine w_pushI rfl ?_
                refine w_iret rfl (Or.inl rfl) ?_
                exact congrArg (fun v => some (Value.int v)) (show (1 : Int32) = f1_row (1) b c by have e0 : (1 : Int32).toInt = 1 := rfl; exact ite_eq_of (fun _ => ite_eq_of (fun hc => absurd hc (by omega)) (fun _ => rfl)) (fun hc => absurd (by omega) hc))
              · obtain rfl : a = 2 := i_is hs7 (by decide)
                refine w_iastv (j := 2) rfl rfl (by decide) (by unfold vp_in; decide) rfl ?_
                refine w_aload rfl rfl ?_
                refine w_getR (r := 84) rfl rfl (hR _ fmR_50_59 (by decide)) ?_
                refine w_iload rfl rfl ?_
                refine w_topv (z := 2) (by decide) ?_
                refine w_iload rfl rfl ?_
                refine w_iastv (j := 2) rfl rfl (by decide) (by unfold vp_in; decide) rfl ?_
                refine w_pushI rfl ?_
                refine w_iload rfl rfl ?_
                refine w_topv (z := 2) (by decide) ?_
                refine w_imulv (z := 120) rfl (by decide) ?_
                refine w_istore rfl rfl ?_
                refine w_iload rfl rfl ?_
                refine w_pushI rfl ?_
                refine w_iload rfl rfl ?_
                refine w_topv (z := 2) (by decide) ?_
                refine w_imulv (z := 120) rfl (by decide) ?_
                refine w_pushI rfl ?_
                refine w_iaddv (z := 180) rfl (by decide) ?_
                refine w_icmp_ge rfl (fun h => absurd h (by decide)) (fun _ => ?_)
                refine w_aload rfl rfl ?_
                refine w_getR (r := 85) rfl rfl (hR _ fmR_50_60 (by decide)) ?_
                refine w_iload rfl rfl ?_
                refine w_pushL rfl ?_
                refine w_lastv (j := 120) rfl rfl (by decide) (by unfold vp_in; decide) rfl ?_
                refine w_iincv (z := 121) rfl rfl (by decide) rfl ?_
                refine w_goto rfl ?_
                refine w_iload rfl rfl ?_
                refine w_pushI rfl ?_
                refine w_iload rfl rfl ?_
                refine w_topv (z := 2) (by decide) ?_
                refine w_imulv (z := 120) rfl (by decide) ?_
                refine w_pushI rfl ?_
                refine w_iaddv (z := 180) rfl (by decide) ?_
                refine w_icmp_ge rfl (fun h => absurd h (by decide)) (fun _ => ?_)
                refine w_aload rfl rfl ?_
                refine w_getR (r := 85) rfl rfl (hR _ fmR_50_60 (by decide)) ?_
                refine w_iload rfl rfl ?_
                refine w_pushL rfl ?_
                refine w_lastv (j := 121) rfl rfl (by decide) (by unfold vp_in; decide) rfl ?_
                refine w_iincv (z := 122) rfl rfl (by decide) rfl ?_
                refine w_goto rfl ?_
                refine w_iload rfl rfl ?_
                refine w_pushI rfl ?_
                refine w_iload rfl rfl ?_
                refine w_topv (z := 2) (by decide) ?_
                refine w_imulv (z := 120) rfl (by decide) ?_
                refine w_pushI rfl ?_
                refine w_iaddv (z := 180) rfl (by decide) ?_
                refine w_icmp_ge rfl (fun h => absurd h (by decide)) (fun _ => ?_)
                refine w_aload rfl rfl ?_
                refine w_getR (r := 85) rfl rfl (hR _ fmR_50_60 (by decide)) ?_
                refine w_iload rfl rfl ?_
                refine w_pushL rfl ?_
                refine w_lastv (j := 122) rfl rfl (by decide) (by unfold vp_in; decide) rfl ?_
                refine w_iincv (z := 123) rfl rfl (by decide) rfl ?_
                refine w_goto rfl ?_
                refine w_iload rfl rfl ?_
                refine w_pushI rfl ?_
                refine w_iload rfl rfl ?_
                refine w_topv (z := 2) (by decide) ?_
                refine w_imulv (z := 120) rfl (by decide) ?_
                refine w_pushI rfl ?_
                refine w_iaddv (z := 180) rfl (by decide) ?_
                refine w_icmp_ge rfl (fun h => absurd h (by decide)) (fun _ => ?_)
                refine w_aload rfl rfl ?_
                refine w_getR (r := 85) rfl rfl (hR _ fmR_50_60 (by decide)) ?_
                refine w_iload rfl rfl ?_
                refine w_pushL rfl ?_
                refine w_lastv (j := 123) rfl rfl (by decide) (by unfold vp_in; decide) rfl ?_
                refine w_iincv (z := 124) rfl rfl (by decide) rfl ?_
                refine w_goto rfl ?_
                refine w_iload rfl rfl ?_
                refine w_pushI rfl ?_
                refine w_iload rfl rfl ?_
                refine w_topv (z := 2) (by decide) ?_
                refine w_imulv (z := 120) rfl (by decide) ?_
                refine w_pushI rfl ?_
                refine w_iaddv (z := 180) rfl (by decide) ?_
                refine w_icmp_ge rfl (fun h => absurd h (by decide)) (fun _ => ?_)
                refine w_aload rfl rfl ?_
                refine w_getR (r := 85) rfl rfl (hR _ fmR_50_60 (by decide)) ?_
                refine w_iload rfl rfl ?_
                refine w_pushL rfl ?_
                refine w_lastv (j := 124) rfl rfl (by decide) (by unfold vp_in; decide) rfl ?_
                refine w_iincv (z := 125) rfl rfl (by decide) rfl ?_
                refine w_goto rfl ?_
                refine w_iload rfl rfl ?_
                refine w_pushI rfl ?_
                refine w_iload rfl rfl ?_
                refine w_topv (z := 2) (by decide) ?_
                refine w_imulv (z := 120) rfl (by decide) ?_
                refine w_pushI rfl ?_
                refine w_iaddv (z := 180) rfl (by decide) ?_
                refine w_icmp_ge rfl (fun h => absurd h (by decide)) (fun _ => ?_)
                refine w_aload rfl rfl ?_
                refine w_getR (r := 85) rfl rfl (hR _ fmR_50_60 (by decide)) ?_
                refine w_iload rfl rfl ?_
                refine w_pushL rfl ?_
                refine w_lastv (j := 125) rfl rfl (by decide) (by unfold vp_in; decide) rfl ?_
                refine w_iincv (z := 126) rfl rfl (by decide) rfl ?_
                refine w_goto rfl ?_
                refine w_iload rfl rfl ?_
                refine w_pushI rfl ?_
                refine w_iload rfl rfl ?_
                refine w_topv (z := 2) (by decide) ?_
                refine w_imulv (z := 120) rfl (by decide) ?_
                refine w_pushI rfl ?_
                refine w_iaddv (z := 180) rfl (by decide) ?_
                refine w_icmp_ge rfl (fun h => absurd h (by decide)) (fun _ => ?_)
                refine w_aload rfl rfl ?_
                refine w_getR (r := 85) rfl rfl (hR _ fmR_50_60 (by decide)) ?_
                refine w_iload rfl rfl ?_
                refine w_pushL rfl ?_
                refine w_lastv (j := 126) rfl rfl (by decide) (by unfold vp_in; decide) rfl ?_
                refine w_iincv (z := 127) rfl rfl (by decide) rfl ?_
                refine w_goto rfl ?_
                refine w_iload rfl rfl ?_
                refine w_pushI rfl ?_
                refine w_iload rfl rfl ?_
                refine w_topv (z := 2) (by decide) ?_
                refine w_imulv (z := 120) rfl (by decide) ?_
                refine w_pushI rfl ?_
                refine w_iaddv (z := 180) rfl (by decide) ?_
                refine w_icmp_ge rfl (fun h => absurd h (by decide)) (fun _ => ?_)
                refine w_aload rfl rfl ?_
                refine w_getR (r := 85) rfl rfl (hR _ fmR_50_60 (by decide)) ?_
                refine w_iload rfl rfl ?_
                refine w_pushL rfl ?_
                refine w_lastv (j := 127) rfl rfl (by decide) (by unfold vp_in; decide) rfl ?_
                refine w_iincv (z := 128) rfl rfl (by decide) rfl ?_
                refine w_goto rfl ?_
                refine w_iload rfl rfl ?_
                refine w_pushI rfl ?_
                refine w_iload rfl rfl ?_
                refine w_topv (z := 2) (by decide) ?_
                refine w_imulv (z := 120) rfl (by decide) ?_
                refine w_pushI rfl ?_
                refine w_iaddv (z := 180) rfl (by decide) ?_
                refine w_icmp_ge rfl (fun h => absurd h (by decide)) (fun _ => ?_)
                refine w_aload rfl rfl ?_
                refine w_getR (r := 85) rfl rfl (hR _ fmR_50_60 (by decide)) ?_
                refine w_iload rfl rfl ?_
                refine w_pushL rfl ?_
                refine w_lastv (j := 128) rfl rfl (by decide) (by unfold vp_in; decide) rfl ?_
                refine w_iincv (z := 129) rfl rfl (by decide) rfl ?_
                refine w_goto rfl ?_
                refine w_iload rfl rfl ?_
                refine w_pushI rfl ?_
                refine w_iload rfl rfl ?_
                refine w_topv (z := 2) (by decide) ?_
                refine w_imulv (z := 120) rfl (by decide) ?_
                refine w_pushI rfl ?_
                refine w_iaddv (z := 180) rfl (by decide) ?_
                refine w_icmp_ge rfl (fun h => absurd h (by decide)) (fun _ => ?_)
                refine w_aload rfl rfl ?_
                refine w_getR (r := 85) rfl rfl (hR _ fmR_50_60 (by decide)) ?_
                refine w_iload rfl rfl ?_
                refine w_pushL rfl ?_
                refine w_lastv (j := 129) rfl rfl (by decide) (by unfold vp_in; decide) rfl ?_
                refine w_iincv (z := 130) rfl rfl (by decide) rfl ?_
                refine w_goto rfl ?_
                refine w_iload rfl rfl ?_
                refine w_pushI rfl ?_
                refine w_iload rfl rfl ?_
                refine w_topv (z := 2) (by decide) ?_
                refine w_imulv (z := 120) rfl (by decide) ?_
                refine w_pushI rfl ?_
                refine w_iaddv (z := 180) rfl (by decide) ?_
                refine w_icmp_ge rfl (fun h => absurd h (by decide)) (fun _ => ?_)
                refine w_aload rfl rfl ?_
                refine w_getR (r := 85) rfl rfl (hR _ fmR_50_60 (by decide)) ?_
                refine w_iload rfl rfl ?_
                refine w_pushL rfl ?_
                refine w_lastv (j := 130) rfl rfl (by decide) (by unfold vp_in; decide) rfl ?_
                refine w_iincv (z := 131) rfl rfl (by decide) rfl ?_
                refine w_goto rfl ?_
                refine w_iload rfl rfl ?_
                refine w_pushI rfl ?_
                refine w_iload rfl rfl ?_
                refine w_topv (z := 2) (by decide) ?_
                refine w_imulv (z := 120) rfl (by decide) ?_
                refine w_pushI rfl ?_
                refine w_iaddv (z := 180) rfl (by decide) ?_
                refine w_icmp_ge rfl (fun h => absurd h (by decide)) (fun _ => ?_)
                refine w_aload rfl rfl ?_
                refine w_getR (r := 85) rfl rfl (hR _ fmR_50_60 (by decide)) ?_
                refine w_iload rfl rfl ?_
                refine w_pushL rfl ?_
                refine w_lastv (j := 131) rfl rfl (by decide) (by unfold vp_in; decide) rfl ?_
                refine w_iincv (z := 132) rfl rfl (by decide) rfl ?_
                refine w_goto rfl ?_
                refine w_iload rfl rfl ?_
                refine w_pushI rfl ?_
                refine w_iload rfl rfl ?_
                refine w_topv (z := 2) (by decide) ?_
                refine w_imulv (z := 120) rfl (by decide) ?_
                refine w_pushI rfl ?_
                refine w_iaddv (z := 180) rfl (by decide) ?_
                refine w_icmp_ge rfl (fun h => absurd h (by decide)) (fun _ => ?_)
                refine w_aload rfl rfl ?_
                refine w_getR (r := 85) rfl rfl (hR _ fmR_50_60 (by decide)) ?_
                refine w_iload rfl rfl ?_
                refine w_pushL rfl ?_
                refine w_lastv (j := 132) rfl rfl (by decide) (by unfold vp_in; decide) rfl ?_
                refine w_iincv (z := 133) rfl rfl (by decide) rfl ?_
                refine w_goto rfl ?_
                refine w_iload rfl rfl ?_
                refine w_pushI rfl ?_
                refine w_iload rfl rfl ?_
                refine w_topv (z := 2) (by decide) ?_
                refine w_imulv (z := 120) rfl (by decide) ?_
                refine w_pushI rfl ?_
                refine w_iaddv (z := 180) rfl (by decide) ?_
                refine w_icmp_ge rfl (fun h => absurd h (by decide)) (fun _ => ?_)
                refine w_aload rfl rfl ?_
                refine w_getR (r := 85) rfl rfl (hR _ fmR_50_60 (by decide)) ?_
                refine w_iload rfl rfl ?_
                refine w_pushL rfl ?_
                refine w_lastv (j := 133) rfl rfl (by decide) (by unfold vp_in; decide) rfl ?_
                refine w_iincv (z := 134) rfl rfl (by decide) rfl ?_
                refine w_goto rfl ?_
                refine w_iload rfl rfl ?_
                refine w_pushI rfl ?_
                refine w_iload rfl rfl ?_
                refine w_topv (z := 2) (by decide) ?_
                refine w_imulv (z := 120) rfl (by decide) ?_
                refine w_pushI rfl ?_
                refine w_iaddv (z := 180) rfl (by decide) ?_
                refine w_icmp_ge rfl (fun h => absurd h (by decide)) (fun _ => ?_)
                refine w_aload rfl rfl ?_
                refine w_getR (r := 85) rfl rfl (hR _ fmR_50_60 (by decide)) ?_
                refine w_iload rfl rfl ?_
                refine w_pushL rfl ?_
                refine w_lastv (j := 134) rfl rfl (by decide) (by unfold vp_in; decide) rfl ?_
                refine w_iincv (z := 135) rfl rfl (by decide) rfl ?_
                refine w_goto rfl ?_
                refine w_iload rfl rfl ?_
                refine w_pushI rfl ?_
                refine w_iload rfl rfl ?_
                refine w_topv (z := 2) (by decide) ?_
                refine w_imulv (z := 120) rfl (by decide) ?_
                refine w_pushI rfl ?_
                refine w_iaddv (z := 180) rfl (by decide) ?_
                refine w_icmp_ge rfl (fun h => absurd h (by decide)) (fun _ => ?_)
                refine w_aload rfl rfl ?_
                refine w_getR (r := 85) rfl rfl (hR _ fmR_50_60 (by decide)) ?_
                refine w_iload rfl rfl ?_
                refine w_pushL rfl ?_
                refine w_lastv (j := 135) rfl rfl (by decide) (by unfold vp_in; decide) rfl ?_
                refine w_iincv (z := 136) rfl rfl (by decide) rfl ?_
                refine w_goto rfl ?_
                refine w_iload rfl rfl ?_
                refine w_pushI rfl ?_
                refine w_iload rfl rfl ?_
                refine w_topv (z := 2) (by decide) ?_
                refine w_imulv (z := 120) rfl (by decide) ?_
                refine w_pushI rfl ?_
                refine w_iaddv (z := 180) rfl (by decide) ?_
                refine w_icmp_ge rfl (fun h => absurd h (by decide)) (fun _ => ?_)
                refine w_aload rfl rfl ?_
                refine w_getR (r := 85) rfl rfl (hR _ fmR_50_60 (by decide)) ?_
                refine w_iload rfl rfl ?_
                refine w_pushL rfl ?_
                refine w_lastv (j := 136) rfl rfl (by decide) (by unfold vp_in; decide) rfl ?_
                refine w_iincv (z := 137) rfl rfl (by decide) rfl ?_
                refine w_goto rfl ?_
                refine w_iload rfl rfl ?_
                refine w_pushI rfl ?_
                refine w_iload rfl rfl ?_
                refine w_topv (z := 2) (by decide) ?_
                refine w_imulv (z := 120) rfl (by decide) ?_
                refine w_pushI rfl ?_
                refine w_iaddv (z := 180) rfl (by decide) ?_
                refine w_icmp_ge rfl (fun h => absurd h (by decide)) (fun _ => ?_)
                refine w_aload rfl rfl ?_
                refine w_getR (r := 85) rfl rfl (hR _ fmR_50_60 (by decide)) ?_
                refine w_iload rfl rfl ?_
                refine w_pushL rfl ?_
                refine w_lastv (j := 137) rfl rfl (by decide) (by unfold vp_in; decide) rfl ?_
                refine w_iincv (z := 138) rfl rfl (by decide) rfl ?_
                refine w_goto rfl ?_
                refine w_iload rfl rfl ?_
                refine w_pushI rfl ?_
                refine w_iload rfl rfl ?_
                refine w_topv (z := 2) (by decide) ?_
                refine w_imulv (z := 120) rfl (by decide) ?_
                refine w_pushI rfl ?_
                refine w_iaddv (z := 180) rfl (by decide) ?_
                refine w_icmp_ge rfl (fun h => absurd h (by decide)) (fun _ => ?_)
                refine w_aload rfl rfl ?_
                refine w_getR (r := 85) rfl rfl (hR _ fmR_50_60 (by decide)) ?_
                refine w_iload rfl rfl ?_
                refine w_pushL rfl ?_
                refine w_lastv (j := 138) rfl rfl (by decide) (by unfold vp_in; decide) rfl ?_
                refine w_iincv (z := 139) rfl rfl (by decide) rfl ?_
                refine w_goto rfl ?_
                refine w_iload rfl rfl ?_
                refine w_pushI rfl ?_
                refine w_iload rfl rfl ?_
                refine w_topv (z := 2) (by decide) ?_
                refine w_imulv (z := 120) rfl (by decide) ?_
                refine w_pushI rfl ?_
                refine w_iaddv (z := 180) rfl (by decide) ?_
                refine w_icmp_ge rfl (fun h => absurd h (by decide)) (fun _ => ?_)
                refine w_aload rfl rfl ?_
                refine w_getR (r := 85) rfl rfl (hR _ fmR_50_60 (by decide)) ?_
                refine w_iload rfl rfl ?_
                refine w_pushL rfl ?_
                refine w_lastv (j := 139) rfl rfl (by decide) (by unfold vp_in; decide) rfl ?_
                refine w_iincv (z := 140) rfl rfl (by decide) rfl ?_
                refine w_goto rfl ?_
                refine w_iload rfl rfl ?_
                refine w_pushI rfl ?_
                refine w_iload rfl rfl ?_
                refine w_topv (z := 2) (by decide) ?_
                refine w_imulv (z := 120) rfl (by decide) ?_
                refine w_pushI rfl ?_
                refine w_iaddv (z := 180) rfl (by decide) ?_
                refine w_icmp_ge rfl (fun h => absurd h (by decide)) (fun _ => ?_)
                refine w_aload rfl rfl ?_
                refine w_getR (r := 85) rfl rfl (hR _ fmR_50_60 (by decide)) ?_
                refine w_iload rfl rfl ?_
                refine w_pushL rfl ?_
                refine w_lastv (j := 140) rfl rfl (by decide) (by unfold vp_in; decide) rfl ?_
                refine w_iincv (z := 141) rfl rfl (by decide) rfl ?_
                refine w_goto rfl ?_
                refine w_iload rfl rfl ?_
                refine w_pushI rfl ?_
                refine w_iload rfl rfl ?_
                refine w_topv (z := 2) (by decide) ?_
                refine w_imulv (z := 120) rfl (by decide) ?_
                refine w_pushI rfl ?_
                refine w_iaddv (z := 180) rfl (by decide) ?_
                refine w_icmp_ge rfl (fun h => absurd h (by decide)) (fun _ => ?_)
                refine w_aload rfl rfl ?_
                refine w_getR (r := 85) rfl rfl (hR _ fmR_50_60 (by decide)) ?_
                refine w_iload rfl rfl ?_
                refine w_pushL rfl ?_
                refine w_lastv (j := 141) rfl rfl (by decide) (by unfold vp_in; decide) rfl ?_
                refine w_iincv (z := 142) rfl rfl (by decide) rfl ?_
                refine w_goto rfl ?_
                refine w_iload rfl rfl ?_
                refine w_pushI rfl ?_
                refine w_iload rfl rfl ?_
                refine w_topv (z := 2) (by decide) ?_
                refine w_imulv (z := 120) rfl (by decide) ?_
                refine w_pushI rfl ?_
                refine w_iaddv (z := 180) rfl (by decide) ?_
                refine w_icmp_ge rfl (fun h => absurd h (by decide)) (fun _ => ?_)
                refine w_aload rfl rfl ?_
                refine w_getR (r := 85) rfl rfl (hR _ fmR_50_60 (by decide)) ?_
                refine w_iload rfl rfl ?_
                refine w_pushL rfl ?_
                refine w_lastv (j := 142) rfl rfl (by decide) (by unfold vp_in; decide) rfl ?_
                refine w_iincv (z := 143) rfl rfl (by decide) rfl ?_
                refine w_goto rfl ?_
                refine w_iload rfl rfl ?_
                refine w_pushI rfl ?_
                refine w_iload rfl rfl ?_
                refine w_topv (z := 2) (by decide) ?_
                refine w_imulv (z := 120) rfl (by decide) ?_
                refine w_pushI rfl ?_
                refine w_iaddv (z := 180) rfl (by decide) ?_
                refine w_icmp_ge rfl (fun h => absurd h (by decide)) (fun _ => ?_)
                refine w_aload rfl rfl ?_
                refine w_getR (r := 85) rfl rfl (hR _ fmR_50_60 (by decide)) ?_
                refine w_iload rfl rfl ?_
                refine w_pushL rfl ?_
                refine w_lastv (j := 143) rfl rfl (by decide) (by unfold vp_in; decide) rfl ?_
                refine w_iincv (z := 144) rfl rfl (by decide) rfl ?_
                refine w_goto rfl ?_
                refine w_iload rfl rfl ?_
                refine w_pushI rfl ?_
                refine w_iload rfl rfl ?_
                refine w_topv (z := 2) (by decide) ?_
                refine w_imulv (z := 120) rfl (by decide) ?_
                refine w_pushI rfl ?_
                refine w_iaddv (z := 180) rfl (by decide) ?_
                refine w_icmp_ge rfl (fun h => absurd h (by decide)) (fun _ => ?_)
                refine w_aload rfl rfl ?_
                refine w_getR (r := 85) rfl rfl (hR _ fmR_50_60 (by decide)) ?_
                refine w_iload rfl rfl ?_
                refine w_pushL rfl ?_
                refine w_lastv (j := 144) rfl rfl (by decide) (by unfold vp_in; decide) rfl ?_
                refine w_iincv (z := 145) rfl rfl (by decide) rfl ?_
                refine w_goto rfl ?_
                refine w_iload rfl rfl ?_
                refine w_pushI rfl ?_
                refine w_iload rfl rfl ?_
                refine w_topv (z := 2) (by decide) ?_
                refine w_imulv (z := 120) rfl (by decide) ?_
                refine w_pushI rfl ?_
                refine w_iaddv (z := 180) rfl (by decide) ?_
                refine w_icmp_ge rfl (fun h => absurd h (by decide)) (fun _ => ?_)
                refine w_aload rfl rfl ?_
                refine w_getR (r := 85) rfl rfl (hR _ fmR_50_60 (by decide)) ?_
                refine w_iload rfl rfl ?_
                refine w_pushL rfl ?_
                refine w_lastv (j := 145) rfl rfl (by decide) (by unfold vp_in; decide) rfl ?_
                refine w_iincv (z := 146) rfl rfl (by decide) rfl ?_
                refine w_goto rfl ?_
                refine w_iload rfl rfl ?_
                refine w_pushI rfl ?_
                refine w_iload rfl rfl ?_
                refine w_topv (z := 2) (by decide) ?_
                refine w_imulv (z := 120) rfl (by decide) ?_
                refine w_pushI rfl ?_
                refine w_iaddv (z := 180) rfl (by decide) ?_
                refine w_icmp_ge rfl (fun h => absurd h (by decide)) (fun _ => ?_)
                refine w_aload rfl rfl ?_
                refine w_getR (r := 85) rfl rfl (hR _ fmR_50_60 (by decide)) ?_
                refine w_iload rfl rfl ?_
                refine w_pushL rfl ?_
                refine w_lastv (j := 146) rfl rfl (by decide) (by unfold vp_in; decide) rfl ?_
                refine w_iincv (z := 147) rfl rfl (by decide) rfl ?_
                refine w_goto rfl ?_
                refine w_iload rfl rfl ?_
                refine w_pushI rfl ?_
                refine w_iload rfl rfl ?_
                refine w_topv (z := 2) (by decide) ?_
                refine w_imulv (z := 120) rfl (by decide) ?_
                refine w_pushI rfl ?_
                refine w_iaddv (z := 180) rfl (by decide) ?_
                refine w_icmp_ge rfl (fun h => absurd h (by decide)) (fun _ => ?_)
                refine w_aload rfl rfl ?_
                refine w_getR (r := 85) rfl rfl (hR _ fmR_50_60 (by decide)) ?_
                refine w_iload rfl rfl ?_
                refine w_pushL rfl ?_
                refine w_lastv (j := 147) rfl rfl (by decide) (by unfold vp_in; decide) rfl ?_
                refine w_iincv (z := 148) rfl rfl (by decide) rfl ?_
                refine w_goto rfl ?_
                refine w_iload rfl rfl ?_
                refine w_pushI rfl ?_
                refine w_iload rfl rfl ?_
                refine w_topv (z := 2) (by decide) ?_
                refine w_imulv (z := 120) rfl (by decide) ?_
                refine w_pushI rfl ?_
                refine w_iaddv (z := 180) rfl (by decide) ?_
                refine w_icmp_ge rfl (fun h => absurd h (by decide)) (fun _ => ?_)
                refine w_aload rfl rfl ?_
                refine w_getR (r := 85) rfl rfl (hR _ fmR_50_60 (by decide)) ?_
                refine w_iload rfl rfl ?_
                refine w_pushL rfl ?_
                refine w_lastv (j := 148) rfl rfl (by decide) (by unfold vp_in; decide) rfl ?_
                refine w_iincv (z := 149) rfl rfl (by decide) rfl ?_
                refine w_goto rfl ?_
                refine w_iload rfl rfl ?_
                refine w_pushI rfl ?_
                refine w_iload rfl rfl ?_
                refine w_topv (z := 2) (by decide) ?_
                refine w_imulv (z := 120) rfl (by decide) ?_
                refine w_pushI rfl ?_
                refine w_iaddv (z := 180) rfl (by decide) ?_
                refine w_icmp_ge rfl (fun h => absurd h (by decide)) (fun _ => ?_)
                refine w_aload rfl rfl ?_
                refine w_getR (r := 85) rfl rfl (hR _ fmR_50_60 (by decide)) ?_
                refine w_iload rfl rfl ?_
                refine w_pushL rfl ?_
                refine w_lastv (j := 149) rfl rfl (by decide) (by unfold vp_in; decide) rfl ?_
                refine w_iincv (z := 150) rfl rfl (by decide) rfl ?_
                refine w_goto rfl ?_
                refine w_iload rfl rfl ?_
                refine w_pushI rfl ?_
                refine w_iload rfl rfl ?_
                refine w_topv (z := 2) (by decide) ?_
                refine w_imulv (z := 120) rfl (by decide) ?_
                refine w_pushI rfl ?_
                refine w_iaddv (z := 180) rfl (by decide) ?_
                refine w_icmp_ge rfl (fun h => absurd h (by decide)) (fun _ => ?_)
                refine w_aload rfl rfl ?_
                refine w_getR (r := 85) rfl rfl (hR _ fmR_50_60 (by decide)) ?_
                refine w_iload rfl rfl ?_
                refine w_pushL rfl ?_
                refine w_lastv (j := 150) rfl rfl (by decide) (by unfold vp_in; decide) rfl ?_
                refine w_iincv (z := 151) rfl rfl (by decide) rfl ?_
                refine w_goto rfl ?_
                refine w_iload rfl rfl ?_
                refine w_pushI rfl ?_
                refine w_iload rfl rfl ?_
                refine w_topv (z := 2) (by decide) ?_
                refine w_imulv (z := 120) rfl (by decide) ?_
                refine w_pushI rfl ?_
                refine w_iaddv (z := 180) rfl (by decide) ?_
                refine w_icmp_ge rfl (fun h => absurd h (by decide)) (fun _ => ?_)
                refine w_aload rfl rfl ?_
                refine w_getR (r := 85) rfl rfl (hR _ fmR_50_60 (by decide)) ?_
                refine w_iload rfl rfl ?_
                refine w_pushL rfl ?_
                refine w_lastv (j := 151) rfl rfl (by decide) (by unfold vp_in; decide) rfl ?_
                refine w_iincv (z := 152) rfl rfl (by decide) rfl ?_
                refine w_goto rfl ?_
                refine w_iload rfl rfl ?_
                refine w_pushI rfl ?_
                refine w_iload rfl rfl ?_
                refine w_topv (z := 2) (by decide) ?_
                refine w_imulv (z := 120) rfl (by decide) ?_
                refine w_pushI rfl ?_
                refine w_iaddv (z := 180) rfl (by decide) ?_
                refine w_icmp_ge rfl (fun h => absurd h (by decide)) (fun _ => ?_)
                refine w_aload rfl rfl ?_
                refine w_getR (r := 85) rfl rfl (hR _ fmR_50_60 (by decide)) ?_
                refine w_iload rfl rfl ?_
                refine w_pushL rfl ?_
                refine w_lastv (j := 152) rfl rfl (by decide) (by unfold vp_in; decide) rfl ?_
                refine w_iincv (z := 153) rfl rfl (by decide) rfl ?_
                refine w_goto rfl ?_
                refine w_iload rfl rfl ?_
                refine w_pushI rfl ?_
                refine w_iload rfl rfl ?_
                refine w_topv (z := 2) (by decide) ?_
                refine w_imulv (z := 120) rfl (by decide) ?_
                refine w_pushI rfl ?_
                refine w_iaddv (z := 180) rfl (by decide) ?_
                refine w_icmp_ge rfl (fun h => absurd h (by decide)) (fun _ => ?_)
                refine w_aload rfl rfl ?_
                refine w_getR (r := 85) rfl rfl (hR _ fmR_50_60 (by decide)) ?_
                refine w_iload rfl rfl ?_
                refine w_pushL rfl ?_
                refine w_lastv (j := 153) rfl rfl (by decide) (by unfold vp_in; decide) rfl ?_
                refine w_iincv (z := 154) rfl rfl (by decide) rfl ?_
                refine w_goto rfl ?_
                refine w_iload rfl rfl ?_
                refine w_pushI rfl ?_
                refine w_iload rfl rfl ?_
                refine w_topv (z := 2) (by decide) ?_
                refine w_imulv (z := 120) rfl (by decide) ?_
                refine w_pushI rfl ?_
                refine w_iaddv (z := 180) rfl (by decide) ?_
                refine w_icmp_ge rfl (fun h => absurd h (by decide)) (fun _ => ?_)
                refine w_aload rfl rfl ?_
                refine w_getR (r := 85) rfl rfl (hR _ fmR_50_60 (by decide)) ?_
                refine w_iload rfl rfl ?_
                refine w_pushL rfl ?_
                refine w_lastv (j := 154) rfl rfl (by decide) (by unfold vp_in; decide) rfl ?_
                refine w_iincv (z := 155) rfl rfl (by decide) rfl ?_
                refine w_goto rfl ?_
                refine w_iload rfl rfl ?_
                refine w_pushI rfl ?_
                refine w_iload rfl rfl ?_
                refine w_topv (z := 2) (by decide) ?_
                refine w_imulv (z := 120) rfl (by decide) ?_
                refine w_pushI rfl ?_
                refine w_iaddv (z := 180) rfl (by decide) ?_
                refine w_icmp_ge rfl (fun h => absurd h (by decide)) (fun _ => ?_)
                refine w_aload rfl rfl ?_
                refine w_getR (r := 85) rfl rfl (hR _ fmR_50_60 (by decide)) ?_
                refine w_iload rfl rfl ?_
                refine w_pushL rfl ?_
                refine w_lastv (j := 155) rfl rfl (by decide) (by unfold vp_in; decide) rfl ?_
                refine w_iincv (z := 156) rfl rfl (by decide) rfl ?_
                refine w_goto rfl ?_
                refine w_iload rfl rfl ?_
                refine w_pushI rfl ?_
                refine w_iload rfl rfl ?_
                refine w_topv (z := 2) (by decide) ?_
                refine w_imulv (z := 120) rfl (by decide) ?_
                refine w_pushI rfl ?_
                refine w_iaddv (z := 180) rfl (by decide) ?_
                refine w_icmp_ge rfl (fun h => absurd h (by decide)) (fun _ => ?_)
                refine w_aload rfl rfl ?_
                refine w_getR (r := 85) rfl rfl (hR _ fmR_50_60 (by decide)) ?_
                refine w_iload rfl rfl ?_
                refine w_pushL rfl ?_
                refine w_lastv (j := 156) rfl rfl (by decide) (by unfold vp_in; decide) rfl ?_
                refine w_iincv (z := 157) rfl rfl (by decide) rfl ?_
                refine w_goto rfl ?_
                refine w_iload rfl rfl ?_
                refine w_pushI rfl ?_
                refine w_iload rfl rfl ?_
                refine w_topv (z := 2) (by decide) ?_
                refine w_imulv (z := 120) rfl (by decide) ?_
                refine w_pushI rfl ?_
                refine w_iaddv (z := 180) rfl (by decide) ?_
                refine w_icmp_ge rfl (fun h => absurd h (by decide)) (fun _ => ?_)
                refine w_aload rfl rfl ?_
                refine w_getR (r := 85) rfl rfl (hR _ fmR_50_60 (by decide)) ?_
                refine w_iload rfl rfl ?_
                refine w_pushL rfl ?_
                refine w_lastv (j := 157) rfl rfl (by decide) (by unfold vp_in; decide) rfl ?_
                refine w_iincv (z := 158) rfl rfl (by decide) rfl ?_
                refine w_goto rfl ?_
                refine w_iload rfl rfl ?_
                refine w_pushI rfl ?_
                refine w_iload rfl rfl ?_
                refine w_topv (z := 2) (by decide) ?_
                refine w_imulv (z := 120) rfl (by decide) ?_
                refine w_pushI rfl ?_
                refine w_iaddv (z := 180) rfl (by decide) ?_
                refine w_icmp_ge rfl (fun h => absurd h (by decide)) (fun _ => ?_)
                refine w_aload rfl rfl ?_
                refine w_getR (r := 85) rfl rfl (hR _ fmR_50_60 (by decide)) ?_
                refine w_iload rfl rfl ?_
                refine w_pushL rfl ?_
                refine w_lastv (j := 158) rfl rfl (by decide) (by unfold vp_in; decide) rfl ?_
                refine w_iincv (z := 159) rfl rfl (by decide) rfl ?_
                refine w_goto rfl ?_
                refine w_iload rfl rfl ?_
                refine w_pushI rfl ?_
                refine w_iload rfl rfl ?_
                refine w_topv (z := 2) (by decide) ?_
                refine w_imulv (z := 120) rfl (by decide) ?_
                refine w_pushI rfl ?_
                refine w_iaddv (z := 180) rfl (by decide) ?_
                refine w_icmp_ge rfl (fun h => absurd h (by decide)) (fun _ => ?_)
                refine w_aload rfl rfl ?_
                refine w_getR (r := 85) rfl rfl (hR _ fmR_50_60 (by decide)) ?_
                refine w_iload rfl rfl ?_
                refine w_pushL rfl ?_
                refine w_lastv (j := 159) rfl rfl (by decide) (by unfold vp_in; decide) rfl ?_
                refine w_iincv (z := 160) rfl rfl (by decide) rfl ?_
                refine w_goto rfl ?_
                refine w_iload rfl rfl ?_
                refine w_pushI rfl ?_
                refine w_iload rfl rfl ?_
                refine w_topv (z := 2) (by decide) ?_
                refine w_imulv (z := 120) rfl (by decide) ?_
                refine w_pushI rfl ?_
                refine w_iaddv (z := 180) rfl (by decide) ?_
                refine w_icmp_ge rfl (fun h => absurd h (by decide)) (fun _ => ?_)
                refine w_aload rfl rfl ?_
                refine w_getR (r := 85) rfl rfl (hR _ fmR_50_60 (by decide)) ?_
                refine w_iload rfl rfl ?_
                refine w_pushL rfl ?_
                refine w_lastv (j := 160) rfl rfl (by decide) (by unfold vp_in; decide) rfl ?_
                refine w_iincv (z := 161) rfl rfl (by decide) rfl ?_
                refine w_goto rfl ?_
                refine w_iload rfl rfl ?_
                refine w_pushI rfl ?_
                refine w_iload rfl rfl ?_
                refine w_topv (z := 2) (by decide) ?_
                refine w_imulv (z := 120) rfl (by decide) ?_
                refine w_pushI rfl ?_
                refine w_iaddv (z := 180) rfl (by decide) ?_
                refine w_icmp_ge rfl (fun h => absurd h (by decide)) (fun _ => ?_)
                refine w_aload rfl rfl ?_
                refine w_getR (r := 85) rfl rfl (hR _ fmR_50_60 (by decide)) ?_
                refine w_iload rfl rfl ?_
                refine w_pushL rfl ?_
                refine w_lastv (j := 161) rfl rfl (by decide) (by unfold vp_in; decide) rfl ?_
                refine w_iincv (z := 162) rfl rfl (by decide) rfl ?_
                refine w_goto rfl ?_
                refine w_iload rfl rfl ?_
                refine w_pushI rfl ?_
                refine w_iload rfl rfl ?_
                refine w_topv (z := 2) (by decide) ?_
                refine w_imulv (z := 120) rfl (by decide) ?_
                refine w_pushI rfl ?_
                refine w_iaddv (z := 180) rfl (by decide) ?_
                refine w_icmp_ge rfl (fun h => absurd h (by decide)) (fun _ => ?_)
                refine w_aload rfl rfl ?_
                refine w_getR (r := 85) rfl rfl (hR _ fmR_50_60 (by decide)) ?_
                refine w_iload rfl rfl ?_
                refine w_pushL rfl ?_
                refine w_lastv (j := 162) rfl rfl (by decide) (by unfold vp_in; decide) rfl ?_
                refine w_iincv (z := 163) rfl rfl (by decide) rfl ?_
                refine w_goto rfl ?_
                refine w_iload rfl rfl ?_
                refine w_pushI rfl ?_
                refine w_iload rfl rfl ?_
                refine w_topv (z := 2) (by decide) ?_
                refine w_imulv (z := 120) rfl (by decide) ?_
                refine w_pushI rfl ?_
                refine w_iaddv (z := 180) rfl (by decide) ?_
                refine w_icmp_ge rfl (fun h => absurd h (by decide)) (fun _ => ?_)
                refine w_aload rfl rfl ?_
                refine w_getR (r := 85) rfl rfl (hR _ fmR_50_60 (by decide)) ?_
                refine w_iload rfl rfl ?_
                refine w_pushL rfl ?_
                refine w_lastv (j := 163) rfl rfl (by decide) (by unfold vp_in; decide) rfl ?_
                refine w_iincv (z := 164) rfl rfl (by decide) rfl ?_
                refine w_goto rfl ?_
                refine w_iload rfl rfl ?_
                refine w_pushI rfl ?_
                refine w_iload rfl rfl ?_
                refine w_topv (z := 2) (by decide) ?_
                refine w_imulv (z := 120) rfl (by decide) ?_
                refine w_pushI rfl ?_
                refine w_iaddv (z := 180) rfl (by decide) ?_
                refine w_icmp_ge rfl (fun h => absurd h (by decide)) (fun _ => ?_)
                refine w_aload rfl rfl ?_
                refine w_getR (r := 85) rfl rfl (hR _ fmR_50_60 (by decide)) ?_
                refine w_iload rfl rfl ?_
                refine w_pushL rfl ?_
                refine w_lastv (j := 164) rfl rfl (by decide) (by unfold vp_in; decide) rfl ?_
                refine w_iincv (z := 165) rfl rfl (by decide) rfl ?_
                refine w_goto rfl ?_
                refine w_iload rfl rfl ?_
                refine w_pushI rfl ?_
                refine w_iload rfl rfl ?_
                refine w_topv (z := 2) (by decide) ?_
                refine w_imulv (z := 120) rfl (by decide) ?_
                refine w_pushI rfl ?_
                refine w_iaddv (z := 180) rfl (by decide) ?_
                refine w_icmp_ge rfl (fun h => absurd h (by decide)) (fun _ => ?_)
                refine w_aload rfl rfl ?_
                refine w_getR (r := 85) rfl rfl (hR _ fmR_50_60 (by decide)) ?_
                refine w_iload rfl rfl ?_
                refine w_pushL rfl ?_
                refine w_lastv (j := 165) rfl rfl (by decide) (by unfold vp_in; decide) rfl ?_
                refine w_iincv (z := 166) rfl rfl (by decide) rfl ?_
                refine w_goto rfl ?_
                refine w_iload rfl rfl ?_
                refine w_pushI rfl ?_
                refine w_iload rfl rfl ?_
                refine w_topv (z := 2) (by decide) ?_
                refine w_imulv (z := 120) rfl (by decide) ?_
                refine w_pushI rfl ?_
                refine w_iaddv (z := 180) rfl (by decide) ?_
                refine w_icmp_ge rfl (fun h => absurd h (by decide)) (fun _ => ?_)
                refine w_aload rfl rfl ?_
                refine w_getR (r := 85) rfl rfl (hR _ fmR_50_60 (by decide)) ?_
                refine w_iload rfl rfl ?_
                refine w_pushL rfl ?_
                refine w_lastv (j := 166) rfl rfl (by decide) (by unfold vp_in; decide) rfl ?_
                refine w_iincv (z := 167) rfl rfl (by decide) rfl ?_
                refine w_goto rfl ?_
                refine w_iload rfl rfl ?_
                refine w_pushI rfl ?_
                refine w_iload rfl rfl ?_
                refine w_topv (z := 2) (by decide) ?_
                refine w_imulv (z := 120) rfl (by decide) ?_
                refine w_pushI rfl ?_
                refine w_iaddv (z := 180) rfl (by decide) ?_
                refine w_icmp_ge rfl (fun h => absurd h (by decide)) (fun _ => ?_)
                refine w_aload rfl rfl ?_
                refine w_getR (r := 85) rfl rfl (hR _ fmR_50_60 (by decide)) ?_
                refine w_iload rfl rfl ?_
                refine w_pushL rfl ?_
                refine w_lastv (j := 167) rfl rfl (by decide) (by unfold vp_in; decide) rfl ?_
                refine w_iincv (z := 168) rfl rfl (by decide) rfl ?_
                refine w_goto rfl ?_
                refine w_iload rfl rfl ?_
                refine w_pushI rfl ?_
                refine w_iload rfl rfl ?_
                refine w_topv (z := 2) (by decide) ?_
                refine w_imulv (z := 120) rfl (by decide) ?_
                refine w_pushI rfl ?_
                refine w_iaddv (z := 180) rfl (by decide) ?_
                refine w_icmp_ge rfl (fun h => absurd h (by decide)) (fun _ => ?_)
                refine w_aload rfl rfl ?_
                refine w_getR (r := 85) rfl rfl (hR _ fmR_50_60 (by decide)) ?_
                refine w_iload rfl rfl ?_
                refine w_pushL rfl ?_
                refine w_lastv (j := 168) rfl rfl (by decide) (by unfold vp_in; decide) rfl ?_
                refine w_iincv (z := 169) rfl rfl (by decide) rfl ?_
                refine w_goto rfl ?_
                refine w_iload rfl rfl ?_
                refine w_pushI rfl ?_
                refine w_iload rfl rfl ?_
                refine w_topv (z := 2) (by decide) ?_
                refine w_imulv (z := 120) rfl (by decide) ?_
                refine w_pushI rfl ?_
                refine w_iaddv (z := 180) rfl (by decide) ?_
                refine w_icmp_ge rfl (fun h => absurd h (by decide)) (fun _ => ?_)
                refine w_aload rfl rfl ?_
                refine w_getR (r := 85) rfl rfl (hR _ fmR_50_60 (by decide)) ?_
                refine w_iload rfl rfl ?_
                refine w_pushL rfl ?_
                refine w_lastv (j := 169) rfl rfl (by decide) (by unfold vp_in; decide) rfl ?_
                refine w_iincv (z := 170) rfl rfl (by decide) rfl ?_
                refine w_goto rfl ?_
                refine w_iload rfl rfl ?_
                refine w_pushI rfl ?_
                refine w_iload rfl rfl ?_
                refine w_topv (z := 2) (by decide) ?_
                refine w_imulv (z := 120) rfl (by decide) ?_
                refine w_pushI rfl ?_
                refine w_iaddv (z := 180) rfl (by decide) ?_
                refine w_icmp_ge rfl (fun h => absurd h (by decide)) (fun _ => ?_)
                refine w_aload rfl rfl ?_
                refine w_getR (r := 85) rfl rfl (hR _ fmR_50_60 (by decide)) ?_
                refine w_iload rfl rfl ?_
                refine w_pushL rfl ?_
                refine w_lastv (j := 170) rfl rfl (by decide) (by unfold vp_in; decide) rfl ?_
                refine w_iincv (z := 171) rfl rfl (by decide) rfl ?_
                refine w_goto rfl ?_
                refine w_iload rfl rfl ?_
                refine w_pushI rfl ?_
                refine w_iload rfl rfl ?_
                refine w_topv (z := 2) (by decide) ?_
                refine w_imulv (z := 120) rfl (by decide) ?_
                refine w_pushI rfl ?_
                refine w_iaddv (z := 180) rfl (by decide) ?_
                refine w_icmp_ge rfl (fun h => absurd h (by decide)) (fun _ => ?_)
                refine w_aload rfl rfl ?_
                refine w_getR (r := 85) rfl rfl (hR _ fmR_50_60 (by decide)) ?_
                refine w_iload rfl rfl ?_
                refine w_pushL rfl ?_
                refine w_lastv (j := 171) rfl rfl (by decide) (by unfold vp_in; decide) rfl ?_
                refine w_iincv (z := 172) rfl rfl (by decide) rfl ?_
                refine w_goto rfl ?_
                refine w_iload rfl rfl ?_
                refine w_pushI rfl ?_
                refine w_iload rfl rfl ?_
                refine w_topv (z := 2) (by decide) ?_
                refine w_imulv (z := 120) rfl (by decide) ?_
                refine w_pushI rfl ?_
                refine w_iaddv (z := 180) rfl (by decide) ?_
                refine w_icmp_ge rfl (fun h => absurd h (by decide)) (fun _ => ?_)
                refine w_aload rfl rfl ?_
                refine w_getR (r := 85) rfl rfl (hR _ fmR_50_60 (by decide)) ?_
                refine w_iload rfl rfl ?_
                refine w_pushL rfl ?_
                refine w_lastv (j := 172) rfl rfl (by decide) (by unfold vp_in; decide) rfl ?_
                refine w_iincv (z := 173) rfl rfl (by decide) rfl ?_
                refine w_goto rfl ?_
                refine w_iload rfl rfl ?_
                refine w_pushI rfl ?_
                refine w_iload rfl rfl ?_
                refine w_topv (z := 2) (by decide) ?_
                refine w_imulv (z := 120) rfl (by decide) ?_
                refine w_pushI rfl ?_
                refine w_iaddv (z := 180) rfl (by decide) ?_
                refine w_icmp_ge rfl (fun h => absurd h (by decide)) (fun _ => ?_)
                refine w_aload rfl rfl ?_
                refine w_getR (r := 85) rfl rfl (hR _ fmR_50_60 (by decide)) ?_
                refine w_iload rfl rfl ?_
                refine w_pushL rfl ?_
                refine w_lastv (j := 173) rfl rfl (by decide) (by unfold vp_in; decide) rfl ?_
                refine w_iincv (z := 174) rfl rfl (by decide) rfl ?_
                refine w_goto rfl ?_
                refine w_iload rfl rfl ?_
                refine w_pushI rfl ?_
                refine w_iload rfl rfl ?_
                refine w_topv (z := 2) (by decide) ?_
                refine w_imulv (z := 120) rfl (by decide) ?_
                refine w_pushI rfl ?_
                refine w_iaddv (z := 180) rfl (by decide) ?_
                refine w_icmp_ge rfl (fun h => absurd h (by decide)) (fun _ => ?_)
                refine w_aload rfl rfl ?_
                refine w_getR (r := 85) rfl rfl (hR _ fmR_50_60 (by decide)) ?_
                refine w_iload rfl rfl ?_
                refine w_pushL rfl ?_
                refine w_lastv (j := 174) rfl rfl (by decide) (by unfold vp_in; decide) rfl ?_
                refine w_iincv (z := 175) rfl rfl (by decide) rfl ?_
                refine w_goto rfl ?_
                refine w_iload rfl rfl ?_
                refine w_pushI rfl ?_
                refine w_iload rfl rfl ?_
                refine w_topv (z := 2) (by decide) ?_
                refine w_imulv (z := 120) rfl (by decide) ?_
                refine w_pushI rfl ?_
                refine w_iaddv (z := 180) rfl (by decide) ?_
                refine w_icmp_ge rfl (fun h => absurd h (by decide)) (fun _ => ?_)
                refine w_aload rfl rfl ?_
                refine w_getR (r := 85) rfl rfl (hR _ fmR_50_60 (by decide)) ?_
                refine w_iload rfl rfl ?_
                refine w_pushL rfl ?_
                refine w_lastv (j := 175) rfl rfl (by decide) (by unfold vp_in; decide) rfl ?_
                refine w_iincv (z := 176) rfl rfl (by decide) rfl ?_
                refine w_goto rfl ?_
                refine w_iload rfl rfl ?_
                refine w_pushI rfl ?_
                refine w_iload rfl rfl ?_
                refine w_topv (z := 2) (by decide) ?_
                refine w_imulv (z := 120) rfl (by decide) ?_
                refine w_pushI rfl ?_
                refine w_iaddv (z := 180) rfl (by decide) ?_
                refine w_icmp_ge rfl (fun h => absurd h (by decide)) (fun _ => ?_)
                refine w_aload rfl rfl ?_
                refine w_getR (r := 85) rfl rfl (hR _ fmR_50_60 (by decide)) ?_
                refine w_iload rfl rfl ?_
                refine w_pushL rfl ?_
                refine w_lastv (j := 176) rfl rfl (by decide) (by unfold vp_in; decide) rfl ?_
                refine w_iincv (z := 177) rfl rfl (by decide) rfl ?_
                refine w_goto rfl ?_
                refine w_iload rfl rfl ?_
                refine w_pushI rfl ?_
                refine w_iload rfl rfl ?_
                refine w_topv (z := 2) (by decide) ?_
                refine w_imulv (z := 120) rfl (by decide) ?_
                refine w_pushI rfl ?_
                refine w_iaddv (z := 180) rfl (by decide) ?_
                refine w_icmp_ge rfl (fun h => absurd h (by decide)) (fun _ => ?_)
                refine w_aload rfl rfl ?_
                refine w_getR (r := 85) rfl rfl (hR _ fmR_50_60 (by decide)) ?_
                refine w_iload rfl rfl ?_
                refine w_pushL rfl ?_
                refine w_lastv (j := 177) rfl rfl (by decide) (by unfold vp_in; decide) rfl ?_
                refine w_iincv (z := 178) rfl rfl (by decide) rfl ?_
                refine w_goto rfl ?_
                refine w_iload rfl rfl ?_
                refine w_pushI rfl ?_
                refine w_iload rfl rfl ?_
                refine w_topv (z := 2) (by decide) ?_
                refine w_imulv (z := 120) rfl (by decide) ?_
                refine w_pushI rfl ?_
                refine w_iaddv (z := 180) rfl (by decide) ?_
                refine w_icmp_ge rfl (fun h => absurd h (by decide)) (fun _ => ?_)
                refine w_aload rfl rfl ?_
                refine w_getR (r := 85) rfl rfl (hR _ fmR_50_60 (by decide)) ?_
                refine w_iload rfl rfl ?_
                refine w_pushL rfl ?_
                refine w_lastv (j := 178) rfl rfl (by decide) (by unfold vp_in; decide) rfl ?_
                refine w_iincv (z := 179) rfl rfl (by decide) rfl ?_
                refine w_goto rfl ?_
                refine w_iload rfl rfl ?_
                refine w_pushI rfl ?_
                refine w_iload rfl rfl ?_
                refine w_topv (z := 2) (by decide) ?_
                refine w_imulv (z := 120) rfl (by decide) ?_
                refine w_pushI rfl ?_
                refine w_iaddv (z := 180) rfl (by decide) ?_
                refine w_icmp_ge rfl (fun h => absurd h (by decide)) (fun _ => ?_)
                refine w_aload rfl rfl ?_
                refine w_getR (r := 85) rfl rfl (hR _ fmR_50_60 (by decide)) ?_
                refine w_iload rfl rfl ?_
                refine w_pushL rfl ?_
                refine w_lastv (j := 179) rfl rfl (by decide) (by unfold vp_in; decide) rfl ?_
                refine w_iincv (z := 180) rfl rfl (by decide) rfl ?_
                refine w_goto rfl ?_
                refine w_iload rfl rfl ?_
                refine w_pushI rfl ?_
                refine w_iload rfl rfl ?_
                refine w_topv (z := 2) (by decide) ?_
                refine w_imulv (z := 120) rfl (by decide) ?_
                refine w_pushI rfl ?_
                refine w_iaddv (z := 180) rfl (by decide) ?_
                refine w_icmp_ge rfl (fun _ => ?_) (fun h => absurd (by decide) h)
                refine w_pushI rfl ?_
                refine w_iret rfl (Or.inl rfl) ?_
                exact congrArg (fun v => some (Value.int v)) (show (1 : Int32) = f1_row (2) b c by have e0 : (2 : Int32).toInt = 2 := rfl; exact ite_eq_of (fun _ => ite_eq_of (fun hc => absurd hc (by omega)) (fun _ => rfl)) (fun hc => absurd (by omega) hc))
              · obtain rfl : a = 3 := i_is hs7 (by decide)
                refine w_iastv (j := 3) rfl rfl (by decide) (by unfold vp_in; decide) rfl ?_
                refine w_aload rfl rfl ?_
                refine w_getR (r := 84) rfl rfl (hR _ fmR_50_59 (by decide)) ?_
                refine w_iload rfl rfl ?_
                refine w_topv (z := 3) (by decide) ?_
                refine w_iload rfl rfl ?_
                refine w_iastv (j := 3) rfl rfl (by decide) (by unfold vp_in; decide) rfl ?_
                refine w_pushI rfl ?_
                refine w_iload rfl rfl ?_
                refine w_topv (z := 3) (by decide) ?_
                refine w_imulv (z := 180) rfl (by decide) ?_
                refine w_istore rfl rfl ?_
                refine w_iload rfl rfl ?_
                refine w_pushI rfl ?_
                refine w_iload rfl rfl ?_
                refine w_topv (z := 3) (by decide) ?_
                refine w_imulv (z := 180) rfl (by decide) ?_
                refine w_pushI rfl ?_
                refine w_iaddv (z := 240) rfl (by decide) ?_
                refine w_icmp_ge rfl (fun h => absurd h (by decide)) (fun _ => ?_)
                refine w_aload rfl rfl ?_
                refine w_getR (r := 85) rfl rfl (hR _ fmR_50_60 (by decide)) ?_
                refine w_iload rfl rfl ?_
                refine w_pushL rfl ?_
                refine w_lastv (j := 180) rfl rfl (by decide) (by unfold vp_in; decide) rfl ?_
                refine w_iincv (z := 181) rfl rfl (by decide) rfl ?_
                refine w_goto rfl ?_
                refine w_iload rfl rfl ?_
                refine w_pushI rfl ?_
                refine w_iload rfl rfl ?_
                refine w_topv (z := 3) (by decide) ?_
                refine w_imulv (z := 180) rfl (by decide) ?_
                refine w_pushI rfl ?_
                refine w_iaddv (z := 240) rfl (by decide) ?_
                refine w_icmp_ge rfl (fun h => absurd h (by decide)) (fun _ => ?_)
                refine w_aload rfl rfl ?_
                refine w_getR (r := 85) rfl rfl (hR _ fmR_50_60 (by decide)) ?_
                refine w_iload rfl rfl ?_
                refine w_pushL rfl ?_
                refine w_lastv (j := 181) rfl rfl (by decide) (by unfold vp_in; decide) rfl ?_
                refine w_iincv (z := 182) rfl rfl (by decide) rfl ?_
                refine w_goto rfl ?_
                refine w_iload rfl rfl ?_
                refine w_pushI rfl ?_
                refine w_iload rfl rfl ?_
                refine w_topv (z := 3) (by decide) ?_
                refine w_imulv (z := 180) rfl (by decide) ?_
                refine w_pushI rfl ?_
                refine w_iaddv (z := 240) rfl (by decide) ?_
                refine w_icmp_ge rfl (fun h => absurd h (by decide)) (fun _ => ?_)
                refine w_aload rfl rfl ?_
                refine w_getR (r := 85) rfl rfl (hR _ fmR_50_60 (by decide)) ?_
                refine w_iload rfl rfl ?_
                refine w_pushL rfl ?_
                refine w_lastv (j := 182) rfl rfl (by decide) (by unfold vp_in; decide) rfl ?_
                refine w_iincv (z := 183) rfl rfl (by decide) rfl ?_
                refine w_goto rfl ?_
                refine w_iload rfl rfl ?_
                refine w_pushI rfl ?_
                refine w_iload rfl rfl ?_
                refine w_topv (z := 3) (by decide) ?_
                refine w_imulv (z := 180) rfl (by decide) ?_
                refine w_pushI rfl ?_
                refine w_iaddv (z := 240) rfl (by decide) ?_
                refine w_icmp_ge rfl (fun h => absurd h (by decide)) (fun _ => ?_)
                refine w_aload rfl rfl ?_
                refine w_getR (r := 85) rfl rfl (hR _ fmR_50_60 (by decide)) ?_
                refine w_iload rfl rfl ?_
                refine w_pushL rfl ?_
                refine w_lastv (j := 183) rfl rfl (by decide) (by unfold vp_in; decide) rfl ?_
                refine w_iincv (z := 184) rfl rfl (by decide) rfl ?_
                refine w_goto rfl ?_
                refine w_iload rfl rfl ?_
                refine w_pushI rfl ?_
                refine w_iload rfl rfl ?_
                refine w_topv (z := 3) (by decide) ?_
                refine w_imulv (z := 180) rfl (by decide) ?_
                refine w_pushI rfl ?_
                refine w_iaddv (z := 240) rfl (by decide) ?_
                refine w_icmp_ge rfl (fun h => absurd h (by decide)) (fun _ => ?_)
                refine w_aload rfl rfl ?_
                refine w_getR (r := 85) rfl rfl (hR _ fmR_50_60 (by decide)) ?_
                refine w_iload rfl rfl ?_
                refine w_pushL rfl ?_
                refine w_lastv (j := 184) rfl rfl (by decide) (by unfold vp_in; decide) rfl ?_
                refine w_iincv (z := 185) rfl rfl (by decide) rfl ?_
                refine w_goto rfl ?_
                refine w_iload rfl rfl ?_
                refine w_pushI rfl ?_
                refine w_iload rfl rfl ?_
                refine w_topv (z := 3) (by decide) ?_
                refine w_imulv (z := 180) rfl (by decide) ?_
                refine w_pushI rfl ?_
                refine w_iaddv (z := 240) rfl (by decide) ?_
                refine w_icmp_ge rfl (fun h => absurd h (by decide)) (fun _ => ?_)
                refine w_aload rfl rfl ?_
                refine w_getR (r := 85) rfl rfl (hR _ fmR_50_60 (by decide)) ?_
                refine w_iload rfl rfl ?_
                refine w_pushL rfl ?_
                refine w_lastv (j := 185) rfl rfl (by decide) (by unfold vp_in; decide) rfl ?_
                refine w_iincv (z := 186) rfl rfl (by decide) rfl ?_
                refine w_goto rfl ?_
                refine w_iload rfl rfl ?_
                refine w_pushI rfl ?_
                refine w_iload rfl rfl ?_
                refine w_topv (z := 3) (by decide) ?_
                refine w_imulv (z := 180) rfl (by decide) ?_
                refine w_pushI rfl ?_
                refine w_iaddv (z := 240) rfl (by decide) ?_
                refine w_icmp_ge rfl (fun h => absurd h (by decide)) (fun _ => ?_)
                refine w_aload rfl rfl ?_
                refine w_getR (r := 85) rfl rfl (hR _ fmR_50_60 (by decide)) ?_
                refine w_iload rfl rfl ?_
                refine w_pushL rfl ?_
                refine w_lastv (j := 186) rfl rfl (by decide) (by unfold vp_in; decide) rfl ?_
                refine w_iincv (z := 187) rfl rfl (by decide) rfl ?_
                refine w_goto rfl ?_
                refine w_iload rfl rfl ?_
                refine w_pushI rfl ?_
                refine w_iload rfl rfl ?_
                refine w_topv (z := 3) (by decide) ?_
                refine w_imulv (z := 180) rfl (by decide) ?_
                refine w_pushI rfl ?_
                refine w_iaddv (z := 240) rfl (by decide) ?_
                refine w_icmp_ge rfl (fun h => absurd h (by decide)) (fun _ => ?_)
                refine w_aload rfl rfl ?_
                refine w_getR (r := 85) rfl rfl (hR _ fmR_50_60 (by decide)) ?_
                refine w_iload rfl rfl ?_
                refine w_pushL rfl ?_
                refine w_lastv (j := 187) rfl rfl (by decide) (by unfold vp_in; decide) rfl ?_
                refine w_iincv (z := 188) rfl rfl (by decide) rfl ?_
                refine w_goto rfl ?_
                refine w_iload rfl rfl ?_
                refine w_pushI rfl ?_
                refine w_iload rfl rfl ?_
                refine w_topv (z := 3) (by decide) ?_
                refine w_imulv (z := 180) rfl (by decide) ?_
                refine w_pushI rfl ?_
                refine w_iaddv (z := 240) rfl (by decide) ?_
                refine w_icmp_ge rfl (fun h => absurd h (by decide)) (fun _ => ?_)
                refine w_aload rfl rfl ?_
                refine w_getR (r := 85) rfl rfl (hR _ fmR_50_60 (by decide)) ?_
                refine w_iload rfl rfl ?_
                refine w_pushL rfl ?_
                refine w_lastv (j := 188) rfl rfl (by decide) (by unfold vp_in; decide) rfl ?_
                refine w_iincv (z := 189) rfl rfl (by decide) rfl ?_
                refine w_goto rfl ?_
                refine w_iload rfl rfl ?_
                refine w_pushI rfl ?_
                refine w_iload rfl rfl ?_
                refine w_topv (z := 3) (by decide) ?_
                refine w_imulv (z := 180) rfl (by decide) ?_
                refine w_pushI rfl ?_
                refine w_iaddv (z := 240) rfl (by decide) ?_
                refine w_icmp_ge rfl (fun h => absurd h (by decide)) (fun _ => ?_)
                refine w_aload rfl rfl ?_
                refine w_getR (r := 85) rfl rfl (hR _ fmR_50_60 (by decide)) ?_
                refine w_iload rfl rfl ?_
                refine w_pushL rfl ?_
                refine w_lastv (j := 189) rfl rfl (by decide) (by unfold vp_in; decide) rfl ?_
                refine w_iincv (z := 190) rfl rfl (by decide) rfl ?_
                refine w_goto rfl ?_
                refine w_iload rfl rfl ?_
                refine w_pushI rfl ?_
                refine w_iload rfl rfl ?_
                refine w_topv (z := 3) (by decide) ?_
                refine w_imulv (z := 180) rfl (by decide) ?_
                refine w_pushI rfl ?_
                refine w_iaddv (z := 240) rfl (by decide) ?_
                refine w_icmp_ge rfl (fun h => absurd h (by decide)) (fun _ => ?_)
                refine w_aload rfl rfl ?_
                refine w_getR (r := 85) rfl rfl (hR _ fmR_50_60 (by decide)) ?_
                refine w_iload rfl rfl ?_
                refine w_pushL rfl ?_
                refine w_lastv (j := 190) rfl rfl (by decide) (by unfold vp_in; decide) rfl ?_
                refine w_iincv (z := 191) rfl rfl (by decide) rfl ?_
                refine w_goto rfl ?_
                refine w_iload rfl rfl ?_
                refine w_pushI rfl ?_
                refine w_iload rfl rfl ?_
                refine w_topv (z := 3) (by decide) ?_
                refine w_imulv (z := 180) rfl (by decide) ?_
                refine w_pushI rfl ?_
                refine w_iaddv (z := 240) rfl (by decide) ?_
                refine w_icmp_ge rfl (fun h => absurd h (by decide)) (fun _ => ?_)
                refine w_aload rfl rfl ?_
                refine w_getR (r := 85) rfl rfl (hR _ fmR_50_60 (by decide)) ?_
                refine w_iload rfl rfl ?_
                refine w_pushL rfl ?_
                refine w_lastv (j := 191) rfl rfl (by decide) (by unfold vp_in; decide) rfl ?_
                refine w_iincv (z := 192) rfl rfl (by decide) rfl ?_
                refine w_goto rfl ?_
                refine w_iload rfl rfl ?_
                refine w_pushI rfl ?_
                refine w_iload rfl rfl ?_
                refine w_topv (z := 3) (by decide) ?_
                refine w_imulv (z := 180) rfl (by decide) ?_
                refine w_pushI rfl ?_
                refine w_iaddv (z := 240) rfl (by decide) ?_
                refine w_icmp_ge rfl (fun h => absurd h (by decide)) (fun _ => ?_)
                refine w_aload rfl rfl ?_
                refine w_getR (r := 85) rfl rfl (hR _ fmR_50_60 (by decide)) ?_
                refine w_iload rfl rfl ?_
                refine w_pushL rfl ?_
                refine w_lastv (j := 192) rfl rfl (by decide) (by unfold vp_in; decide) rfl ?_
                refine w_iincv (z := 193) rfl rfl (by decide) rfl ?_
                refine w_goto rfl ?_
                refine w_iload rfl rfl ?_
                refine w_pushI rfl ?_
                refine w_iload rfl rfl ?_
                refine w_topv (z := 3) (by decide) ?_
                refine w_imulv (z := 180) rfl (by decide) ?_
                refine w_pushI rfl ?_
                refine w_iaddv (z := 240) rfl (by decide) ?_
                refine w_icmp_ge rfl (fun h => absurd h (by decide)) (fun _ => ?_)
                refine w_aload rfl rfl ?_
                refine w_getR (r := 85) rfl rfl (hR _ fmR_50_60 (by decide)) ?_
                refine w_iload rfl rfl ?_
                refine w_pushL rfl ?_
                refine w_lastv (j := 193) rfl rfl (by decide) (by unfold vp_in; decide) rfl ?_
                refine w_iincv (z := 194) rfl rfl (by decide) rfl ?_
                refine w_goto rfl ?_
                refine w_iload rfl rfl ?_
                refine w_pushI rfl ?_
                refine w_iload rfl rfl ?_
                refine w_topv (z := 3) (by decide) ?_
                refine w_imulv (z := 180) rfl (by decide) ?_
                refine w_pushI rfl ?_
                refine w_iaddv (z := 240) rfl (by decide) ?_
                refine w_icmp_ge rfl (fun h => absurd h (by decide)) (fun _ => ?_)
                refine w_aload rfl rfl ?_
                refine w_getR (r := 85) rfl rfl (hR _ fmR_50_60 (by decide)) ?_
                refine w_iload rfl rfl ?_
                refine w_pushL rfl ?_
                refine w_lastv (j := 194) rfl rfl (by decide) (by unfold vp_in; decide) rfl ?_
                refine w_iincv (z := 195) rfl rfl (by decide) rfl ?_
                refine w_goto rfl ?_
                refine w_iload rfl rfl ?_
                refine w_pushI rfl ?_
                refine w_iload rfl rfl ?_
                refine w_topv (z := 3) (by decide) ?_
                refine w_imulv (z := 180) rfl (by decide) ?_
                refine w_pushI rfl ?_
                refine w_iaddv (z := 240) rfl (by decide) ?_
                refine w_icmp_ge rfl (fun h => absurd h (by decide)) (fun _ => ?_)
                refine w_aload rfl rfl ?_
                refine w_getR (r := 85) rfl rfl (hR _ fmR_50_60 (by decide)) ?_
                refine w_iload rfl rfl ?_
                refine w_pushL rfl ?_
                refine w_lastv (j := 195) rfl rfl (by decide) (by unfold vp_in; decide) rfl ?_
                refine w_iincv (z := 196) rfl rfl (by decide) rfl ?_
                refine w_goto rfl ?_
                refine w_iload rfl rfl ?_
                refine w_pushI rfl ?_
                refine w_iload rfl rfl ?_
                refine w_topv (z := 3) (by decide) ?_
                refine w_imulv (z := 180) rfl (by decide) ?_
                refine w_pushI rfl ?_
                refine w_iaddv (z := 240) rfl (by decide) ?_
                refine w_icmp_ge rfl (fun h => absurd h (by decide)) (fun _ => ?_)
                refine w_aload rfl rfl ?_
                refine w_getR (r := 85) rfl rfl (hR _ fmR_50_60 (by decide)) ?_
                refine w_iload rfl rfl ?_
                refine w_pushL rfl ?_
                refine w_lastv (j := 196) rfl rfl (by decide) (by unfold vp_in; decide) rfl ?_
                refine w_iincv (z := 197) rfl rfl (by decide) rfl ?_
                refine w_goto rfl ?_
                refine w_iload rfl rfl ?_
                refine w_pushI rfl ?_
                refine w_iload rfl rfl ?_
                refine w_topv (z := 3) (by decide) ?_
                refine w_imulv (z := 180) rfl (by decide) ?_
                refine w_pushI rfl ?_
                refine w_iaddv (z := 240) rfl (by decide) ?_
                refine w_icmp_ge rfl (fun h => absurd h (by decide)) (fun _ => ?_)
                refine w_aload rfl rfl ?_
                refine w_getR (r := 85) rfl rfl (hR _ fmR_50_60 (by decide)) ?_
                refine w_iload rfl rfl ?_
                refine w_pushL rfl ?_
                refine w_lastv (j := 197) rfl rfl (by decide) (by unfold vp_in; decide) rfl ?_
                refine w_iincv (z := 198) rfl rfl (by decide) rfl ?_
                refine w_goto rfl ?_
                refine w_iload rfl rfl ?_
                refine w_pushI rfl ?_
                refine w_iload rfl rfl ?_
                refine w_topv (z := 3) (by decide) ?_
                refine w_imulv (z := 180) rfl (by decide) ?_
                refine w_pushI rfl ?_
                refine w_iaddv (z := 240) rfl (by decide) ?_
                refine w_icmp_ge rfl (fun h => absurd h (by decide)) (fun _ => ?_)
                refine w_aload rfl rfl ?_
                refine w_getR (r := 85) rfl rfl (hR _ fmR_50_60 (by decide)) ?_
                refine w_iload rfl rfl ?_
                refine w_pushL rfl ?_
                refine w_lastv (j := 198) rfl rfl (by decide) (by unfold vp_in; decide) rfl ?_
                refine w_iincv (z := 199) rfl rfl (by decide) rfl ?_
                refine w_goto rfl ?_
                refine w_iload rfl rfl ?_
                refine w_pushI rfl ?_
                refine w_iload rfl rfl ?_
                refine w_topv (z := 3) (by decide) ?_
                refine w_imulv (z := 180) rfl (by decide) ?_
                refine w_pushI rfl ?_
                refine w_iaddv (z := 240) rfl (by decide) ?_
                refine w_icmp_ge rfl (fun h => absurd h (by decide)) (fun _ => ?_)
                refine w_aload rfl rfl ?_
                refine w_getR (r := 85) rfl rfl (hR _ fmR_50_60 (by decide)) ?_
                refine w_iload rfl rfl ?_
                refine w_pushL rfl ?_
                refine w_lastv (j := 199) rfl rfl (by decide) (by unfold vp_in; decide) rfl ?_
                refine w_iincv (z := 200) rfl rfl (by decide) rfl ?_
                refine w_goto rfl ?_
                refine w_iload rfl rfl ?_
                refine w_pushI rfl ?_
                refine w_iload rfl rfl ?_
                refine w_topv (z := 3) (by decide) ?_
                refine w_imulv (z := 180) rfl (by decide) ?_
                refine w_pushI rfl ?_
                refine w_iaddv (z := 240) rfl (by decide) ?_
                refine w_icmp_ge rfl (fun h => absurd h (by decide)) (fun _ => ?_)
                refine w_aload rfl rfl ?_
                refine w_getR (r := 85) rfl rfl (hR _ fmR_50_60 (by decide)) ?_
                refine w_iload rfl rfl ?_
                refine w_pushL rfl ?_
                refine w_lastv (j := 200) rfl rfl (by decide) (by unfold vp_in; decide) rfl ?_
                refine w_iincv (z := 201) rfl rfl (by decide) rfl ?_
                refine w_goto rfl ?_
                refine w_iload rfl rfl ?_
                refine w_pushI rfl ?_
                refine w_iload rfl rfl ?_
                refine w_topv (z := 3) (by decide) ?_
                refine w_imulv (z := 180) rfl (by decide) ?_
                refine w_pushI rfl ?_
                refine w_iaddv (z := 240) rfl (by decide) ?_
                refine w_icmp_ge rfl (fun h => absurd h (by decide)) (fun _ => ?_)
                refine w_aload rfl rfl ?_
                refine w_getR (r := 85) rfl rfl (hR _ fmR_50_60 (by decide)) ?_
                refine w_iload rfl rfl ?_
                refine w_pushL rfl ?_
                refine w_lastv (j := 201) rfl rfl (by decide) (by unfold vp_in; decide) rfl ?_
                refine w_iincv (z := 202) rfl rfl (by decide) rfl ?_
                refine w_goto rfl ?_
                refine w_iload rfl rfl ?_
                refine w_pushI rfl ?_
                refine w_iload rfl rfl ?_
                refine w_topv (z := 3) (by decide) ?_
                refine w_imulv (z := 180) rfl (by decide) ?_
                refine w_pushI rfl ?_
                refine w_iaddv (z := 240) rfl (by decide) ?_
                refine w_icmp_ge rfl (fun h => absurd h (by decide)) (fun _ => ?_)
                refine w_aload rfl rfl ?_
                refine w_getR (r := 85) rfl rfl (hR _ fmR_50_60 (by decide)) ?_
                refine w_iload rfl rfl ?_
                refine w_pushL rfl ?_
                refine w_lastv (j := 202) rfl rfl (by decide) (by unfold vp_in; decide) rfl ?_
                refine w_iincv (z := 203) rfl rfl (by decide) rfl ?_
                refine w_goto rfl ?_
                refine w_iload rfl rfl ?_
                refine w_pushI rfl ?_
                refine w_iload rfl rfl ?_
                refine w_topv (z := 3) (by decide) ?_
                refine w_imulv (z := 180) rfl (by decide) ?_
                refine w_pushI rfl ?_
                refine w_iaddv (z := 240) rfl (by decide) ?_
                refine w_icmp_ge rfl (fun h => absurd h (by decide)) (fun _ => ?_)
                refine w_aload rfl rfl ?_
                refine w_getR (r := 85) rfl rfl (hR _ fmR_50_60 (by decide)) ?_
                refine w_iload rfl rfl ?_
                refine w_pushL rfl ?_
                refine w_lastv (j := 203) rfl rfl (by decide) (by unfold vp_in; decide) rfl ?_
                refine w_iincv (z := 204) rfl rfl (by decide) rfl ?_
                refine w_goto rfl ?_
                refine w_iload rfl rfl ?_
                refine w_pushI rfl ?_
                refine w_iload rfl rfl ?_
                refine w_topv (z := 3) (by decide) ?_
                refine w_imulv (z := 180) rfl (by decide) ?_
                refine w_pushI rfl ?_
                refine w_iaddv (z := 240) rfl (by decide) ?_
                refine w_icmp_ge rfl (fun h => absurd h (by decide)) (fun _ => ?_)
                refine w_aload rfl rfl ?_
                refine w_getR (r := 85) rfl rfl (hR _ fmR_50_60 (by decide)) ?_
                refine w_iload rfl rfl ?_
                refine w_pushL rfl ?_
                refine w_lastv (j := 204) rfl rfl (by decide) (by unfold vp_in; decide) rfl ?_
                refine w_iincv (z := 205) rfl rfl (by decide) rfl ?_
                refine w_goto rfl ?_
                refine w_iload rfl rfl ?_
                refine w_pushI rfl ?_
                refine w_iload rfl rfl ?_
                refine w_topv (z := 3) (by decide) ?_
                refine w_imulv (z := 180) rfl (by decide) ?_
                refine w_pushI rfl ?_
                refine w_iaddv (z := 240) rfl (by decide) ?_
                refine w_icmp_ge rfl (fun h => absurd h (by decide)) (fun _ => ?_)
                refine w_aload rfl rfl ?_
                refine w_getR (r := 85) rfl rfl (hR _ fmR_50_60 (by decide)) ?_
                refine w_iload rfl rfl ?_
                refine w_pushL rfl ?_
                refine w_lastv (j := 205) rfl rfl (by decide) (by unfold vp_in; decide) rfl ?_
                refine w_iincv (z := 206) rfl rfl (by decide) rfl ?_
                refine w_goto rfl ?_
                refine w_iload rfl rfl ?_
                refine w_pushI rfl ?_
                refine w_iload rfl rfl ?_
                refine w_topv (z := 3) (by decide) ?_
                refine w_imulv (z := 180) rfl (by decide) ?_
                refine w_pushI rfl ?_
                refine w_iaddv (z := 240) rfl (by decide) ?_
                refine w_icmp_ge rfl (fun h => absurd h (by decide)) (fun _ => ?_)
                refine w_aload rfl rfl ?_
                refine w_getR (r := 85) rfl rfl (hR _ fmR_50_60 (by decide)) ?_
                refine w_iload rfl rfl ?_
                refine w_pushL rfl ?_
                refine w_lastv (j := 206) rfl rfl (by decide) (by unfold vp_in; decide) rfl ?_
                refine w_iincv (z := 207) rfl rfl (by decide) rfl ?_
                refine w_goto rfl ?_
                refine w_iload rfl rfl ?_
                refine w_pushI rfl ?_
                refine w_iload rfl rfl ?_
                refine w_topv (z := 3) (by decide) ?_
                refine w_imulv (z := 180) rfl (by decide) ?_
                refine w_pushI rfl ?_
                refine w_iaddv (z := 240) rfl (by decide) ?_
                refine w_icmp_ge rfl (fun h => absurd h (by decide)) (fun _ => ?_)
                refine w_aload rfl rfl ?_
                refine w_getR (r := 85) rfl rfl (hR _ fmR_50_60 (by decide)) ?_
                refine w_iload rfl rfl ?_
                refine w_pushL rfl ?_
                refine w_lastv (j := 207) rfl rfl (by decide) (by unfold vp_in; decide) rfl ?_
                refine w_iincv (z := 208) rfl rfl (by decide) rfl ?_
                refine w_goto rfl ?_
                refine w_iload rfl rfl ?_
                refine w_pushI rfl ?_
                refine w_iload rfl rfl ?_
                refine w_topv (z := 3) (by decide) ?_
                refine w_imulv (z := 180) rfl (by decide) ?_
                refine w_pushI rfl ?_
                refine w_iaddv (z := 240) rfl (by decide) ?_
                refine w_icmp_ge rfl (fun h => absurd h (by decide)) (fun _ => ?_)
                refine w_aload rfl rfl ?_
                refine w_getR (r := 85) rfl rfl (hR _ fmR_50_60 (by decide)) ?_
                refine w_iload rfl rfl ?_
                refine w_pushL rfl ?_
                refine w_lastv (j := 208) rfl rfl (by decide) (by unfold vp_in; decide) rfl ?_
                refine w_iincv (z := 209) rfl rfl (by decide) rfl ?_
                refine w_goto rfl ?_
                refine w_iload rfl rfl ?_
                refine w_pushI rfl ?_
                refine w_iload rfl rfl ?_
                refine w_topv (z := 3) (by decide) ?_
                refine w_imulv (z := 180) rfl (by decide) ?_
                refine w_pushI rfl ?_
                refine w_iaddv (z := 240) rfl (by decide) ?_
                refine w_icmp_ge rfl (fun h => absurd h (by decide)) (fun _ => ?_)
                refine w_aload rfl rfl ?_
                refine w_getR (r := 85) rfl rfl (hR _ fmR_50_60 (by decide)) ?_
                refine w_iload rfl rfl ?_
                refine w_pushL rfl ?_
                refine w_lastv (j := 209) rfl rfl (by decide) (by unfold vp_in; decide) rfl ?_
                refine w_iincv (z := 210) rfl rfl (by decide) rfl ?_
                refine w_goto rfl ?_
                refine w_iload rfl rfl ?_
                refine w_pushI rfl ?_
                refine w_iload rfl rfl ?_
                refine w_topv (z := 3) (by decide) ?_
                refine w_imulv (z := 180) rfl (by decide) ?_
                refine w_pushI rfl ?_
                refine w_iaddv (z := 240) rfl (by decide) ?_
                refine w_icmp_ge rfl (fun h => absurd h (by decide)) (fun _ => ?_)
                refine w_aload rfl rfl ?_
                refine w_getR (r := 85) rfl rfl (hR _ fmR_50_60 (by decide)) ?_
                refine w_iload rfl rfl ?_
                refine w_pushL rfl ?_
                refine w_lastv (j := 210) rfl rfl (by decide) (by unfold vp_in; decide) rfl ?_
                refine w_iincv (z := 211) rfl rfl (by decide) rfl ?_
                refine w_goto rfl ?_
                refine w_iload rfl rfl ?_
                refine w_pushI rfl ?_
                refine w_iload rfl rfl ?_
                refine w_topv (z := 3) (by decide) ?_
                refine w_imulv (z := 180) rfl (by decide) ?_
                refine w_pushI rfl ?_
                refine w_iaddv (z := 240) rfl (by decide) ?_
                refine w_icmp_ge rfl (fun h => absurd h (by decide)) (fun _ => ?_)
                refine w_aload rfl rfl ?_
                refine w_getR (r := 85) rfl rfl (hR _ fmR_50_60 (by decide)) ?_
                refine w_iload rfl rfl ?_
                refine w_pushL rfl ?_
                refine w_lastv (j := 211) rfl rfl (by decide) (by unfold vp_in; decide) rfl ?_
                refine w_iincv (z := 212) rfl rfl (by decide) rfl ?_
                refine w_goto rfl ?_
                refine w_iload rfl rfl ?_
                refine w_pushI rfl ?_
                refine w_iload rfl rfl ?_
                refine w_topv (z := 3) (by decide) ?_
                refine w_imulv (z := 180) rfl (by decide) ?_
                refine w_pushI rfl ?_
                refine w_iaddv (z := 240) rfl (by decide) ?_
                refine w_icmp_ge rfl (fun h => absurd h (by decide)) (fun _ => ?_)
                refine w_aload rfl rfl ?_
                refine w_getR (r := 85) rfl rfl (hR _ fmR_50_60 (by decide)) ?_
                refine w_iload rfl rfl ?_
                refine w_pushL rfl ?_
                refine w_lastv (j := 212) rfl rfl (by decide) (by unfold vp_in; decide) rfl ?_
                refine w_iincv (z := 213) rfl rfl (by decide) rfl ?_
                refine w_goto rfl ?_
                refine w_iload rfl rfl ?_
                refine w_pushI rfl ?_
                refine w_iload rfl rfl ?_
                refine w_topv (z := 3) (by decide) ?_
                refine w_imulv (z := 180) rfl (by decide) ?_
                refine w_pushI rfl ?_
                refine w_iaddv (z := 240) rfl (by decide) ?_
                refine w_icmp_ge rfl (fun h => absurd h (by decide)) (fun _ => ?_)
                refine w_aload rfl rfl ?_
                refine w_getR (r := 85) rfl rfl (hR _ fmR_50_60 (by decide)) ?_
                refine w_iload rfl rfl ?_
                refine w_pushL rfl ?_
                refine w_lastv (j := 213) rfl rfl (by decide) (by unfold vp_in; decide) rfl ?_
                refine w_iincv (z := 214) rfl rfl (by decide) rfl ?_
                refine w_goto rfl ?_
                refine w_iload rfl rfl ?_
                refine w_pushI rfl ?_
                refine w_iload rfl rfl ?_
                refine w_topv (z := 3) (by decide) ?_
                refine w_imulv (z := 180) rfl (by decide) ?_
                refine w_pushI rfl ?_
                refine w_iaddv (z := 240) rfl (by decide) ?_
                refine w_icmp_ge rfl (fun h => absurd h (by decide)) (fun _ => ?_)
                refine w_aload rfl rfl ?_
                refine w_getR (r := 85) rfl rfl (hR _ fmR_50_60 (by decide)) ?_
                refine w_iload rfl rfl ?_
                refine w_pushL rfl ?_
                refine w_lastv (j := 214) rfl rfl (by decide) (by unfold vp_in; decide) rfl ?_
                refine w_iincv (z := 215) rfl rfl (by decide) rfl ?_
                refine w_goto rfl ?_
                refine w_iload rfl rfl ?_
                refine w_pushI rfl ?_
                refine w_iload rfl rfl ?_
                refine w_topv (z := 3) (by decide) ?_
                refine w_imulv (z := 180) rfl (by decide) ?_
                refine w_pushI rfl ?_
                refine w_iaddv (z := 240) rfl (by decide) ?_
                refine w_icmp_ge rfl (fun h => absurd h (by decide)) (fun _ => ?_)
                refine w_aload rfl rfl ?_
                refine w_getR (r := 85) rfl rfl (hR _ fmR_50_60 (by decide)) ?_
                refine w_iload rfl rfl ?_
                refine w_pushL rfl ?_
                refine w_lastv (j := 215) rfl rfl (by decide) (by unfold vp_in; decide) rfl ?_
                refine w_iincv (z := 216) rfl rfl (by decide) rfl ?_
                refine w_goto rfl ?_
                refine w_iload rfl rfl ?_
                refine w_pushI rfl ?_
                refine w_iload rfl rfl ?_
                refine w_topv (z := 3) (by decide) ?_
                refine w_imulv (z := 180) rfl (by decide) ?_
                refine w_pushI rfl ?_
                refine w_iaddv (z := 240) rfl (by decide) ?_
                refine w_icmp_ge rfl (fun h => absurd h (by decide)) (fun _ => ?_)
                refine w_aload rfl rfl ?_
                refine w_getR (r := 85) rfl rfl (hR _ fmR_50_60 (by decide)) ?_
                refine w_iload rfl rfl ?_
                refine w_pushL rfl ?_
                refine w_lastv (j := 216) rfl rfl (by decide) (by unfold vp_in; decide) rfl ?_
                refine w_iincv (z := 217) rfl rfl (by decide) rfl ?_
                refine w_goto rfl ?_
                refine w_iload rfl rfl ?_
                refine w_pushI rfl ?_
                refine w_iload rfl rfl ?_
                refine w_topv (z := 3) (by decide) ?_
                refine w_imulv (z := 180) rfl (by decide) ?_
                refine w_pushI rfl ?_
                refine w_iaddv (z := 240) rfl (by decide) ?_
                refine w_icmp_ge rfl (fun h => absurd h (by decide)) (fun _ => ?_)
                refine w_aload rfl rfl ?_
                refine w_getR (r := 85) rfl rfl (hR _ fmR_50_60 (by decide)) ?_
                refine w_iload rfl rfl ?_
                refine w_pushL rfl ?_
                refine w_lastv (j := 217) rfl rfl (by decide) (by unfold vp_in; decide) rfl ?_
                refine w_iincv (z := 218) rfl rfl (by decide) rfl ?_
                refine w_goto rfl ?_
                refine w_iload rfl rfl ?_
                refine w_pushI rfl ?_
                refine w_iload rfl rfl ?_
                refine w_topv (z := 3) (by decide) ?_
                refine w_imulv (z := 180) rfl (by decide) ?_
                refine w_pushI rfl ?_
                refine w_iaddv (z := 240) rfl (by decide) ?_
                refine w_icmp_ge rfl (fun h => absurd h (by decide)) (fun _ => ?_)
                refine w_aload rfl rfl ?_
                refine w_getR (r := 85) rfl rfl (hR _ fmR_50_60 (by decide)) ?_
                refine w_iload rfl rfl ?_
                refine w_pushL rfl ?_
                refine w_lastv (j := 218) rfl rfl (by decide) (by unfold vp_in; decide) rfl ?_
                refine w_iincv (z := 219) rfl rfl (by decide) rfl ?_
                refine w_goto rfl ?_
                refine w_iload rfl rfl ?_
                refine w_pushI rfl ?_
                refine w_iload rfl rfl ?_
                refine w_topv (z := 3) (by decide) ?_
                refine w_imulv (z := 180) rfl (by decide) ?_
                refine w_pushI rfl ?_
                refine w_iaddv (z := 240) rfl (by decide) ?_
                refine w_icmp_ge rfl (fun h => absurd h (by decide)) (fun _ => ?_)
                refine w_aload rfl rfl ?_
                refine w_getR (r := 85) rfl rfl (hR _ fmR_50_60 (by decide)) ?_
                refine w_iload rfl rfl ?_
                refine w_pushL rfl ?_
                refine w_lastv (j := 219) rfl rfl (by decide) (by unfold vp_in; decide) rfl ?_
                refine w_iincv (z := 220) rfl rfl (by decide) rfl ?_
                refine w_goto rfl ?_
                refine w_iload rfl rfl ?_
                refine w_pushI rfl ?_
                refine w_iload rfl rfl ?_
                refine w_topv (z := 3) (by decide) ?_
                refine w_imulv (z := 180) rfl (by decide) ?_
                refine w_pushI rfl ?_
                refine w_iaddv (z := 240) rfl (by decide) ?_
                refine w_icmp_ge rfl (fun h => absurd h (by decide)) (fun _ => ?_)
                refine w_aload rfl rfl ?_
                refine w_getR (r := 85) rfl rfl (hR _ fmR_50_60 (by decide)) ?_
                refine w_iload rfl rfl ?_
                refine w_pushL rfl ?_
                refine w_lastv (j := 220) rfl rfl (by decide) (by unfold vp_in; decide) rfl ?_
                refine w_iincv (z := 221) rfl rfl (by decide) rfl ?_
                refine w_goto rfl ?_
                refine w_iload rfl rfl ?_
                refine w_pushI rfl ?_
                refine w_iload rfl rfl ?_
                refine w_topv (z := 3) (by decide) ?_
                refine w_imulv (z := 180) rfl (by decide) ?_
                refine w_pushI rfl ?_
                refine w_iaddv (z := 240) rfl (by decide) ?_
                refine w_icmp_ge rfl (fun h => absurd h (by decide)) (fun _ => ?_)
                refine w_aload rfl rfl ?_
                refine w_getR (r := 85) rfl rfl (hR _ fmR_50_60 (by decide)) ?_
                refine w_iload rfl rfl ?_
                refine w_pushL rfl ?_
                refine w_lastv (j := 221) rfl rfl (by decide) (by unfold vp_in; decide) rfl ?_
                refine w_iincv (z := 222) rfl rfl (by decide) rfl ?_
                refine w_goto rfl ?_
                refine w_iload rfl rfl ?_
                refine w_pushI rfl ?_
                refine w_iload rfl rfl ?_
                refine w_topv (z := 3) (by decide) ?_
                refine w_imulv (z := 180) rfl (by decide) ?_
                refine w_pushI rfl ?_
                refine w_iaddv (z := 240) rfl (by decide) ?_
                refine w_icmp_ge rfl (fun h => absurd h (by decide)) (fun _ => ?_)
                refine w_aload rfl rfl ?_
                refine w_getR (r := 85) rfl rfl (hR _ fmR_50_60 (by decide)) ?_
                refine w_iload rfl rfl ?_
                refine w_pushL rfl ?_
                refine w_lastv (j := 222) rfl rfl (by decide) (by unfold vp_in; decide) rfl ?_
                refine w_iincv (z := 223) rfl rfl (by decide) rfl ?_
                refine w_goto rfl ?_
                refine w_iload rfl rfl ?_
                refine w_pushI rfl ?_
                refine w_iload rfl rfl ?_
                refine w_topv (z := 3) (by decide) ?_
                refine w_imulv (z := 180) rfl (by decide) ?_
                refine w_pushI rfl ?_
                refine w_iaddv (z := 240) rfl (by decide) ?_
                refine w_icmp_ge rfl (fun h => absurd h (by decide)) (fun _ => ?_)
                refine w_aload rfl rfl ?_
                refine w_getR (r := 85) rfl rfl (hR _ fmR_50_60 (by decide)) ?_
                refine w_iload rfl rfl ?_
                refine w_pushL rfl ?_
                refine w_lastv (j := 223) rfl rfl (by decide) (by unfold vp_in; decide) rfl ?_
                refine w_iincv (z := 224) rfl rfl (by decide) rfl ?_
                refine w_goto rfl ?_
                refine w_iload rfl rfl ?_
                refine w_pushI rfl ?_
                refine w_iload rfl rfl ?_
                refine w_topv (z := 3) (by decide) ?_
                refine w_imulv (z := 180) rfl (by decide) ?_
                refine w_pushI rfl ?_
                refine w_iaddv (z := 240) rfl (by decide) ?_
                refine w_icmp_ge rfl (fun h => absurd h (by decide)) (fun _ => ?_)
                refine w_aload rfl rfl ?_
                refine w_getR (r := 85) rfl rfl (hR _ fmR_50_60 (by decide)) ?_
                refine w_iload rfl rfl ?_
                refine w_pushL rfl ?_
                refine w_lastv (j := 224) rfl rfl (by decide) (by unfold vp_in; decide) rfl ?_
                refine w_iincv (z := 225) rfl rfl (by decide) rfl ?_
                refine w_goto rfl ?_
                refine w_iload rfl rfl ?_
                refine w_pushI rfl ?_
                refine w_iload rfl rfl ?_
                refine w_topv (z := 3) (by decide) ?_
                refine w_imulv (z := 180) rfl (by decide) ?_
                refine w_pushI rfl ?_
                refine w_iaddv (z := 240) rfl (by decide) ?_
                refine w_icmp_ge rfl (fun h => absurd h (by decide)) (fun _ => ?_)
                refine w_aload rfl rfl ?_
                refine w_getR (r := 85) rfl rfl (hR _ fmR_50_60 (by decide)) ?_
                refine w_iload rfl rfl ?_
                refine w_pushL rfl ?_
                refine w_lastv (j := 225) rfl rfl (by decide) (by unfold vp_in; decide) rfl ?_
                refine w_iincv (z := 226) rfl rfl (by decide) rfl ?_
                refine w_goto rfl ?_
                refine w_iload rfl rfl ?_
                refine w_pushI rfl ?_
                refine w_iload rfl rfl ?_
                refine w_topv (z := 3) (by decide) ?_
                refine w_imulv (z := 180) rfl (by decide) ?_
                refine w_pushI rfl ?_
                refine w_iaddv (z := 240) rfl (by decide) ?_
                refine w_icmp_ge rfl (fun h => absurd h (by decide)) (fun _ => ?_)
                refine w_aload rfl rfl ?_
                refine w_getR (r := 85) rfl rfl (hR _ fmR_50_60 (by decide)) ?_
                refine w_iload rfl rfl ?_
                refine w_pushL rfl ?_
                refine w_lastv (j := 226) rfl rfl (by decide) (by unfold vp_in; decide) rfl ?_
                refine w_iincv (z := 227) rfl rfl (by decide) rfl ?_
                refine w_goto rfl ?_
                refine w_iload rfl rfl ?_
                refine w_pushI rfl ?_
                refine w_iload rfl rfl ?_
                refine w_topv (z := 3) (by decide) ?_
                refine w_imulv (z := 180) rfl (by decide) ?_
                refine w_pushI rfl ?_
                refine w_iaddv (z := 240) rfl (by decide) ?_
                refine w_icmp_ge rfl (fun h => absurd h (by decide)) (fun _ => ?_)
                refine w_aload rfl rfl ?_
                refine w_getR (r := 85) rfl rfl (hR _ fmR_50_60 (by decide)) ?_
                refine w_iload rfl rfl ?_
                refine w_pushL rfl ?_
                refine w_lastv (j := 227) rfl rfl (by decide) (by unfold vp_in; decide) rfl ?_
                refine w_iincv (z := 228) rfl rfl (by decide) rfl ?_
                refine w_goto rfl ?_
                refine w_iload rfl rfl ?_
                refine w_pushI rfl ?_
                refine w_iload rfl rfl ?_
                refine w_topv (z := 3) (by decide) ?_
                refine w_imulv (z := 180) rfl (by decide) ?_
                refine w_pushI rfl ?_
                refine w_iaddv (z := 240) rfl (by decide) ?_
                refine w_icmp_ge rfl (fun h => absurd h (by decide)) (fun _ => ?_)
                refine w_aload rfl rfl ?_
                refine w_getR (r := 85) rfl rfl (hR _ fmR_50_60 (by decide)) ?_
                refine w_iload rfl rfl ?_
                refine w_pushL rfl ?_
                refine w_lastv (j := 228) rfl rfl (by decide) (by unfold vp_in; decide) rfl ?_
                refine w_iincv (z := 229) rfl rfl (by decide) rfl ?_
                refine w_goto rfl ?_
                refine w_iload rfl rfl ?_
                refine w_pushI rfl ?_
                refine w_iload rfl rfl ?_
                refine w_topv (z := 3) (by decide) ?_
                refine w_imulv (z := 180) rfl (by decide) ?_
                refine w_pushI rfl ?_
                refine w_iaddv (z := 240) rfl (by decide) ?_
                refine w_icmp_ge rfl (fun h => absurd h (by decide)) (fun _ => ?_)
                refine w_aload rfl rfl ?_
                refine w_getR (r := 85) rfl rfl (hR _ fmR_50_60 (by decide)) ?_
                refine w_iload rfl rfl ?_
                refine w_pushL rfl ?_
                refine w_lastv (j := 229) rfl rfl (by decide) (by unfold vp_in; decide) rfl ?_
                refine w_iincv (z := 230) rfl rfl (by decide) rfl ?_
                refine w_goto rfl ?_
                refine w_iload rfl rfl ?_
                refine w_pushI rfl ?_
                refine w_iload rfl rfl ?_
                refine w_topv (z := 3) (by decide) ?_
                refine w_imulv (z := 180) rfl (by decide) ?_
                refine w_pushI rfl ?_
                refine w_iaddv (z := 240) rfl (by decide) ?_
                refine w_icmp_ge rfl (fun h => absurd h (by decide)) (fun _ => ?_)
                refine w_aload rfl rfl ?_
                refine w_getR (r := 85) rfl rfl (hR _ fmR_50_60 (by decide)) ?_
                refine w_iload rfl rfl ?_
                refine w_pushL rfl ?_
                refine w_lastv (j := 230) rfl rfl (by decide) (by unfold vp_in; decide) rfl ?_
                refine w_iincv (z := 231) rfl rfl (by decide) rfl ?_
                refine w_goto rfl ?_
                refine w_iload rfl rfl ?_
                refine w_pushI rfl ?_
                refine w_iload rfl rfl ?_
                refine w_topv (z := 3) (by decide) ?_
                refine w_imulv (z := 180) rfl (by decide) ?_
                refine w_pushI rfl ?_
                refine w_iaddv (z := 240) rfl (by decide) ?_
                refine w_icmp_ge rfl (fun h => absurd h (by decide)) (fun _ => ?_)
                refine w_aload rfl rfl ?_
                refine w_getR (r := 85) rfl rfl (hR _ fmR_50_60 (by decide)) ?_
                refine w_iload rfl rfl ?_
                refine w_pushL rfl ?_
                refine w_lastv (j := 231) rfl rfl (by decide) (by unfold vp_in; decide) rfl ?_
                refine w_iincv (z := 232) rfl rfl (by decide) rfl ?_
                refine w_goto rfl ?_
                refine w_iload rfl rfl ?_
                refine w_pushI rfl ?_
                refine w_iload rfl rfl ?_
                refine w_topv (z := 3) (by decide) ?_
                refine w_imulv (z := 180) rfl (by decide) ?_
                refine w_pushI rfl ?_
                refine w_iaddv (z := 240) rfl (by decide) ?_
                refine w_icmp_ge rfl (fun h => absurd h (by decide)) (fun _ => ?_)
                refine w_aload rfl rfl ?_
                refine w_getR (r := 85) rfl rfl (hR _ fmR_50_60 (by decide)) ?_
                refine w_iload rfl rfl ?_
                refine w_pushL rfl ?_
                refine w_lastv (j := 232) rfl rfl (by decide) (by unfold vp_in; decide) rfl ?_
                refine w_iincv (z := 233) rfl rfl (by decide) rfl ?_
                refine w_goto rfl ?_
                refine w_iload rfl rfl ?_
                refine w_pushI rfl ?_
                refine w_iload rfl rfl ?_
                refine w_topv (z := 3) (by decide) ?_
                refine w_imulv (z := 180) rfl (by decide) ?_
                refine w_pushI rfl ?_
                refine w_iaddv (z := 240) rfl (by decide) ?_
                refine w_icmp_ge rfl (fun h => absurd h (by decide)) (fun _ => ?_)
                refine w_aload rfl rfl ?_
                refine w_getR (r := 85) rfl rfl (hR _ fmR_50_60 (by decide)) ?_
                refine w_iload rfl rfl ?_
                refine w_pushL rfl ?_
                refine w_lastv (j := 233) rfl rfl (by decide) (by unfold vp_in; decide) rfl ?_
                refine w_iincv (z := 234) rfl rfl (by decide) rfl ?_
                refine w_goto rfl ?_
                refine w_iload rfl rfl ?_
                refine w_pushI rfl ?_
                refine w_iload rfl rfl ?_
                refine w_topv (z := 3) (by decide) ?_
                refine w_imulv (z := 180) rfl (by decide) ?_
                refine w_pushI rfl ?_
                refine w_iaddv (z := 240) rfl (by decide) ?_
                refine w_icmp_ge rfl (fun h => absurd h (by decide)) (fun _ => ?_)
                refine w_aload rfl rfl ?_
                refine w_getR (r := 85) rfl rfl (hR _ fmR_50_60 (by decide)) ?_
                refine w_iload rfl rfl ?_
                refine w_pushL rfl ?_
                refine w_lastv (j := 234) rfl rfl (by decide) (by unfold vp_in; decide) rfl ?_
                refine w_iincv (z := 235) rfl rfl (by decide) rfl ?_
                refine w_goto rfl ?_
                refine w_iload rfl rfl ?_
                refine w_pushI rfl ?_
                refine w_iload rfl rfl ?_
                refine w_topv (z := 3) (by decide) ?_
                refine w_imulv (z := 180) rfl (by decide) ?_
                refine w_pushI rfl ?_
                refine w_iaddv (z := 240) rfl (by decide) ?_
                refine w_icmp_ge rfl (fun h => absurd h (by decide)) (fun _ => ?_)
                refine w_aload rfl rfl ?_
                refine w_getR (r := 85) rfl rfl (hR _ fmR_50_60 (by decide)) ?_
                refine w_iload rfl rfl ?_
                refine w_pushL rfl ?_
                refine w_lastv (j := 235) rfl rfl (by decide) (by unfold vp_in; decide) rfl ?_
                refine w_iincv (z := 236) rfl rfl (by decide) rfl ?_
                refine w_goto rfl ?_
                refine w_iload rfl rfl ?_
                refine w_pushI rfl ?_
                refine w_iload rfl rfl ?_
                refine w_topv (z := 3) (by decide) ?_
                refine w_imulv (z := 180) rfl (by decide) ?_
                refine w_pushI rfl ?_
                refine w_iaddv (z := 240) rfl (by decide) ?_
                refine w_icmp_ge rfl (fun h => absurd h (by decide)) (fun _ => ?_)
                refine w_aload rfl rfl ?_
                refine w_getR (r := 85) rfl rfl (hR _ fmR_50_60 (by decide)) ?_
                refine w_iload rfl rfl ?_
                refine w_pushL rfl ?_
                refine w_lastv (j := 236) rfl rfl (by decide) (by unfold vp_in; decide) rfl ?_
                refine w_iincv (z := 237) rfl rfl (by decide) rfl ?_
                refine w_goto rfl ?_
                refine w_iload rfl rfl ?_
                refine w_pushI rfl ?_
                refine w_iload rfl rfl ?_
                refine w_topv (z := 3) (by decide) ?_
                refine w_imulv (z := 180) rfl (by decide) ?_
                refine w_pushI rfl ?_
                refine w_iaddv (z := 240) rfl (by decide) ?_
                refine w_icmp_ge rfl (fun h => absurd h (by decide)) (fun _ => ?_)
                refine w_aload rfl rfl ?_
                refine w_getR (r := 85) rfl rfl (hR _ fmR_50_60 (by decide)) ?_
                refine w_iload rfl rfl ?_
                refine w_pushL rfl ?_
                refine w_lastv (j := 237) rfl rfl (by decide) (by unfold vp_in; decide) rfl ?_
                refine w_iincv (z := 238) rfl rfl (by decide) rfl ?_
                refine w_goto rfl ?_
                refine w_iload rfl rfl ?_
                refine w_pushI rfl ?_
                refine w_iload rfl rfl ?_
                refine w_topv (z := 3) (by decide) ?_
                refine w_imulv (z := 180) rfl (by decide) ?_
                refine w_pushI rfl ?_
                refine w_iaddv (z := 240) rfl (by decide) ?_
                refine w_icmp_ge rfl (fun h => absurd h (by decide)) (fun _ => ?_)
                refine w_aload rfl rfl ?_
                refine w_getR (r := 85) rfl rfl (hR _ fmR_50_60 (by decide)) ?_
                refine w_iload rfl rfl ?_
                refine w_pushL rfl ?_
                refine w_lastv (j := 238) rfl rfl (by decide) (by unfold vp_in; decide) rfl ?_
                refine w_iincv (z := 239) rfl rfl (by decide) rfl ?_
                refine w_goto rfl ?_
                refine w_iload rfl rfl ?_
                refine w_pushI rfl ?_
                refine w_iload rfl rfl ?_
                refine w_topv (z := 3) (by decide) ?_
                refine w_imulv (z := 180) rfl (by decide) ?_
                refine w_pushI rfl ?_
                refine w_iaddv (z := 240) rfl (by decide) ?_
                refine w_icmp_ge rfl (fun h => absurd h (by decide)) (fun _ => ?_)
                refine w_aload rfl rfl ?_
                refine w_getR (r := 85) rfl rfl (hR _ fmR_50_60 (by decide)) ?_
                refine w_iload rfl rfl ?_
                refine w_pushL rfl ?_
                refine w_lastv (j := 239) rfl rfl (by decide) (by unfold vp_in; decide) rfl ?_
                refine w_iincv (z := 240) rfl rfl (by decide) rfl ?_
                refine w_goto rfl ?_
                refine w_iload rfl rfl ?_
                refine w_pushI rfl ?_
                refine w_iload rfl rfl ?_
                refine w_topv (z := 3) (by decide) ?_
                refine w_imulv (z := 180) rfl (by decide) ?_
                refine w_pushI rfl ?_
                refine w_iaddv (z := 240) rfl (by decide) ?_
                refine w_icmp_ge rfl (fun _ => ?_) (fun h => absurd (by decide) h)
                refine w_pushI rfl ?_
                refine w_iret rfl (Or.inl rfl) ?_
                exact congrArg (fun v => some (Value.int v)) (show (1 : Int32) = f1_row (3) b c by have e0 : (3 : Int32).toInt = 3 := rfl; exact ite_eq_of (fun _ => ite_eq_of (fun hc => absurd hc (by omega)) (fun _ => rfl)) (fun hc => absurd (by omega) hc))
              · obtain rfl : a = 4 := i_is hs7 (by decide)
                refine w_iastv (j := 4) rfl rfl (by decide) (by unfold vp_in; decide) rfl ?_
                refine w_aload rfl rfl ?_
                refine w_getR (r := 84) rfl rfl (hR _ fmR_50_59 (by decide)) ?_
                refine w_iload rfl rfl ?_
                refine w_topv (z := 4) (by decide) ?_
                refine w_iload rfl rfl ?_
                refine w_iastv (j := 4) rfl rfl (by decide) (by unfold vp_in; decide) rfl ?_
                refine w_pushI rfl ?_
                refine w_iload rfl rfl ?_
                refine w_topv (z := 4) (by decide) ?_
                refine w_imulv (z := 240) rfl (by decide) ?_
                refine w_istore rfl rfl ?_
                refine w_iload rfl rfl ?_
                refine w_pushI rfl ?_
                refine w_iload rfl rfl ?_
                refine w_topv (z := 4) (by decide) ?_
                refine w_imulv (z := 240) rfl (by decide) ?_
                refine w_pushI rfl ?_
                refine w_iaddv (z := 300) rfl (by decide) ?_
                refine w_icmp_ge rfl (fun h => absurd h (by decide)) (fun _ => ?_)
                refine w_aload rfl rfl ?_
                refine w_getR (r := 85) rfl rfl (hR _ fmR_50_60 (by decide)) ?_
                refine w_iload rfl rfl ?_
                refine w_pushL rfl ?_
                refine w_lastv (j := 240) rfl rfl (by decide) (by unfold vp_in; decide) rfl ?_
                refine w_iincv (z := 241) rfl rfl (by decide) rfl ?_
                refine w_goto rfl ?_
                refine w_iload rfl rfl ?_
                refine w_pushI rfl ?_
                refine w_iload rfl rfl ?_
                refine w_topv (z := 4) (by decide) ?_
                refine w_imulv (z := 240) rfl (by decide) ?_
                refine w_pushI rfl ?_
                refine w_iaddv (z := 300) rfl (by decide) ?_
                refine w_icmp_ge rfl (fun h => absurd h (by decide)) (fun _ => ?_)
                refine w_aload rfl rfl ?_
                refine w_getR (r := 85) rfl rfl (hR _ fmR_50_60 (by decide)) ?_
                refine w_iload rfl rfl ?_
                refine w_pushL rfl ?_
                refine w_lastv (j := 241) rfl rfl (by decide) (by unfold vp_in; decide) rfl ?_
                refine w_iincv (z := 242) rfl rfl (by decide) rfl ?_
                refine w_goto rfl ?_
                refine w_iload rfl rfl ?_
                refine w_pushI rfl ?_
                refine w_iload rfl rfl ?_
                refine w_topv (z := 4) (by decide) ?_
                refine w_imulv (z := 240) rfl (by decide) ?_
                refine w_pushI rfl ?_
                refine w_iaddv (z := 300) rfl (by decide) ?_
                refine w_icmp_ge rfl (fun h => absurd h (by decide)) (fun _ => ?_)
                refine w_aload rfl rfl ?_
                refine w_getR (r := 85) rfl rfl (hR _ fmR_50_60 (by decide)) ?_
                refine w_iload rfl rfl ?_
                refine w_pushL rfl ?_
                refine w_lastv (j := 242) rfl rfl (by decide) (by unfold vp_in; decide) rfl ?_
                refine w_iincv (z := 243) rfl rfl (by decide) rfl ?_
                refine w_goto rfl ?_
                refine w_iload rfl rfl ?_
                refine w_pushI rfl ?_
                refine w_iload rfl rfl ?_
                refine w_topv (z := 4) (by decide) ?_
                refine w_imulv (z := 240) rfl (by decide) ?_
                refine w_pushI rfl ?_
                refine w_iaddv (z := 300) rfl (by decide) ?_
                refine w_icmp_ge rfl (fun h => absurd h (by decide)) (fun _ => ?_)
                refine w_aload rfl rfl ?_
                refine w_getR (r := 85) rfl rfl (hR _ fmR_50_60 (by decide)) ?_
                refine w_iload rfl rfl ?_
                refine w_pushL rfl ?_
                refine w_lastv (j := 243) rfl rfl (by decide) (by unfold vp_in; decide) rfl ?_
                refine w_iincv (z := 244) rfl rfl (by decide) rfl ?_
                refine w_goto rfl ?_
                refine w_iload rfl rfl ?_
                refine w_pushI rfl ?_
                refine w_iload rfl rfl ?_
                refine w_topv (z := 4) (by decide) ?_
                refine w_imulv (z := 240) rfl (by decide) ?_
                refine w_pushI rfl ?_
                refine w_iaddv (z := 300) rfl (by decide) ?_
                refine w_icmp_ge rfl (fun h => absurd h (by decide)) (fun _ => ?_)
                refine w_aload rfl rfl ?_
                refine w_getR (r := 85) rfl rfl (hR _ fmR_50_60 (by decide)) ?_
                refine w_iload rfl rfl ?_
                refine w_pushL rfl ?_
                refine w_lastv (j := 244) rfl rfl (by decide) (by unfold vp_in; decide) rfl ?_
                refine w_iincv (z := 245) rfl rfl (by decide) rfl ?_
                refine w_goto rfl ?_
                refine w_iload rfl rfl ?_
                refine w_pushI rfl ?_
                refine w_iload rfl rfl ?_
                refine w_topv (z := 4) (by decide) ?_
                refine w_imulv (z := 240) rfl (by decide) ?_
                refine w_pushI rfl ?_
                refine w_iaddv (z := 300) rfl (by decide) ?_
                refine w_icmp_ge rfl (fun h => absurd h (by decide)) (fun _ => ?_)
                refine w_aload rfl rfl ?_
                refine w_getR (r := 85) rfl rfl (hR _ fmR_50_60 (by decide)) ?_
                refine w_iload rfl rfl ?_
                refine w_pushL rfl ?_
                refine w_lastv (j := 245) rfl rfl (by decide) (by unfold vp_in; decide) rfl ?_
                refine w_iincv (z := 246) rfl rfl (by decide) rfl ?_
                refine w_goto rfl ?_
                refine w_iload rfl rfl ?_
                refine w_pushI rfl ?_
                refine w_iload rfl rfl ?_
                refine w_topv (z := 4) (by decide) ?_
                refine w_imulv (z := 240) rfl (by decide) ?_
                refine w_pushI rfl ?_
                refine w_iaddv (z := 300) rfl (by decide) ?_
                refine w_icmp_ge rfl (fun h => absurd h (by decide)) (fun _ => ?_)
                refine w_aload rfl rfl ?_
                refine w_getR (r := 85) rfl rfl (hR _ fmR_50_60 (by decide)) ?_
                refine w_iload rfl rfl ?_
                refine w_pushL rfl ?_
                refine w_lastv (j := 246) rfl rfl (by decide) (by unfold vp_in; decide) rfl ?_
                refine w_iincv (z := 247) rfl rfl (by decide) rfl ?_
                refine w_goto rfl ?_
                refine w_iload rfl rfl ?_
                refine w_pushI rfl ?_
                refine w_iload rfl rfl ?_
                refine w_topv (z := 4) (by decide) ?_
                refine w_imulv (z := 240) rfl (by decide) ?_
                refine w_pushI rfl ?_
                refine w_iaddv (z := 300) rfl (by decide) ?_
                refine w_icmp_ge rfl (fun h => absurd h (by decide)) (fun _ => ?_)
                refine w_aload rfl rfl ?_
                refine w_getR (r := 85) rfl rfl (hR _ fmR_50_60 (by decide)) ?_
                refine w_iload rfl rfl ?_
                refine w_pushL rfl ?_
                refine w_lastv (j := 247) rfl rfl (by decide) (by unfold vp_in; decide) rfl ?_
                refine w_iincv (z := 248) rfl rfl (by decide) rfl ?_
                refine w_goto rfl ?_
                refine w_iload rfl rfl ?_
                refine w_pushI rfl ?_
                refine w_iload rfl rfl ?_
                refine w_topv (z := 4) (by decide) ?_
                refine w_imulv (z := 240) rfl (by decide) ?_
                refine w_pushI rfl ?_
                refine w_iaddv (z := 300) rfl (by decide) ?_
                refine w_icmp_ge rfl (fun h => absurd h (by decide)) (fun _ => ?_)
                refine w_aload rfl rfl ?_
                refine w_getR (r := 85) rfl rfl (hR _ fmR_50_60 (by decide)) ?_
                refine w_iload rfl rfl ?_
                refine w_pushL rfl ?_
                refine w_lastv (j := 248) rfl rfl (by decide) (by unfold vp_in; decide) rfl ?_
                refine w_iincv (z := 249) rfl rfl (by decide) rfl ?_
                refine w_goto rfl ?_
                refine w_iload rfl rfl ?_
                refine w_pushI rfl ?_
                refine w_iload rfl rfl ?_
                refine w_topv (z := 4) (by decide) ?_
                refine w_imulv (z := 240) rfl (by decide) ?_
                refine w_pushI rfl ?_
                refine w_iaddv (z := 300) rfl (by decide) ?_
                refine w_icmp_ge rfl (fun h => absurd h (by decide)) (fun _ => ?_)
                refine w_aload rfl rfl ?_
                refine w_getR (r := 85) rfl rfl (hR _ fmR_50_60 (by decide)) ?_
                refine w_iload rfl rfl ?_
                refine w_pushL rfl ?_
                refine w_lastv (j := 249) rfl rfl (by decide) (by unfold vp_in; decide) rfl ?_
                refine w_iincv (z := 250) rfl rfl (by decide) rfl ?_
                refine w_goto rfl ?_
                refine w_iload rfl rfl ?_
                refine w_pushI rfl ?_
                refine w_iload rfl rfl ?_
                refine w_topv (z := 4) (by decide) ?_
                refine w_imulv (z := 240) rfl (by decide) ?_
                refine w_pushI rfl ?_
                refine w_iaddv (z := 300) rfl (by decide) ?_
                refine w_icmp_ge rfl (fun h => absurd h (by decide)) (fun _ => ?_)
                refine w_aload rfl rfl ?_
                refine w_getR (r := 85) rfl rfl (hR _ fmR_50_60 (by decide)) ?_
                refine w_iload rfl rfl ?_
                refine w_pushL rfl ?_
                refine w_lastv (j := 250) rfl rfl (by decide) (by unfold vp_in; decide) rfl ?_
                refine w_iincv (z := 251) rfl rfl (by decide) rfl ?_
                refine w_goto rfl ?_
                refine w_iload rfl rfl ?_
                refine w_pushI rfl ?_
                refine w_iload rfl rfl ?_
                refine w_topv (z := 4) (by decide) ?_
                refine w_imulv (z := 240) rfl (by decide) ?_
                refine w_pushI rfl ?_
                refine w_iaddv (z := 300) rfl (by decide) ?_
                refine w_icmp_ge rfl (fun h => absurd h (by decide)) (fun _ => ?_)
                refine w_aload rfl rfl ?_
                refine w_getR (r := 85) rfl rfl (hR _ fmR_50_60 (by decide)) ?_
                refine w_iload rfl rfl ?_
                refine w_pushL rfl ?_
                refine w_lastv (j := 251) rfl rfl (by decide) (by unfold vp_in; decide) rfl ?_
                refine w_iincv (z := 252) rfl rfl (by decide) rfl ?_
                refine w_goto rfl ?_
                refine w_iload rfl rfl ?_
                refine w_pushI rfl ?_
                refine w_iload rfl rfl ?_
                refine w_topv (z := 4) (by decide) ?_
                refine w_imulv (z := 240) rfl (by decide) ?_
                refine w_pushI rfl ?_
                refine w_iaddv (z := 300) rfl (by decide) ?_
                refine w_icmp_ge rfl (fun h => absurd h (by decide)) (fun _ => ?_)
                refine w_aload rfl rfl ?_
                refine w_getR (r := 85) rfl rfl (hR _ fmR_50_60 (by decide)) ?_
                refine w_iload rfl rfl ?_
                refine w_pushL rfl ?_
                refine w_lastv (j := 252) rfl rfl (by decide) (by unfold vp_in; decide) rfl ?_
                refine w_iincv (z := 253) rfl rfl (by decide) rfl ?_
                refine w_goto rfl ?_
                refine w_iload rfl rfl ?_
                refine w_pushI rfl ?_
                refine w_iload rfl rfl ?_
                refine w_topv (z := 4) (by decide) ?_
                refine w_imulv (z := 240) rfl (by decide) ?_
                refine w_pushI rfl ?_
                refine w_iaddv (z := 300) rfl (by decide) ?_
                refine w_icmp_ge rfl (fun h => absurd h (by decide)) (fun _ => ?_)
                refine w_aload rfl rfl ?_
                refine w_getR (r := 85) rfl rfl (hR _ fmR_50_60 (by decide)) ?_
                refine w_iload rfl rfl ?_
                refine w_pushL rfl ?_
                refine w_lastv (j := 253) rfl rfl (by decide) (by unfold vp_in; decide) rfl ?_
                refine w_iincv (z := 254) rfl rfl (by decide) rfl ?_
                refine w_goto rfl ?_
                refine w_iload rfl rfl ?_
                refine w_pushI rfl ?_
                refine w_iload rfl rfl ?_
                refine w_topv (z := 4) (by decide) ?_
                refine w_imulv (z := 240) rfl (by decide) ?_
                refine w_pushI rfl ?_
                refine w_iaddv (z := 300) rfl (by decide) ?_
                refine w_icmp_ge rfl (fun h => absurd h (by decide)) (fun _ => ?_)
                refine w_aload rfl rfl ?_
                refine w_getR (r := 85) rfl rfl (hR _ fmR_50_60 (by decide)) ?_
                refine w_iload rfl rfl ?_
                refine w_pushL rfl ?_
                refine w_lastv (j := 254) rfl rfl (by decide) (by unfold vp_in; decide) rfl ?_
                refine w_iincv (z := 255) rfl rfl (by decide) rfl ?_
                refine w_goto rfl ?_
                refine w_iload rfl rfl ?_
                refine w_pushI rfl ?_
                refine w_iload rfl rfl ?_
                refine w_topv (z := 4) (by decide) ?_
                refine w_imulv (z := 240) rfl (by decide) ?_
                refine w_pushI rfl ?_
                refine w_iaddv (z := 300) rfl (by decide) ?_
                refine w_icmp_ge rfl (fun h => absurd h (by decide)) (fun _ => ?_)
                refine w_aload rfl rfl ?_
                refine w_getR (r := 85) rfl rfl (hR _ fmR_50_60 (by decide)) ?_
                refine w_iload rfl rfl ?_
                refine w_pushL rfl ?_
                refine w_lastv (j := 255) rfl rfl (by decide) (by unfold vp_in; decide) rfl ?_
                refine w_iincv (z := 256) rfl rfl (by decide) rfl ?_
                refine w_goto rfl ?_
                refine w_iload rfl rfl ?_
                refine w_pushI rfl ?_
                refine w_iload rfl rfl ?_
                refine w_topv (z := 4) (by decide) ?_
                refine w_imulv (z := 240) rfl (by decide) ?_
                refine w_pushI rfl ?_
                refine w_iaddv (z := 300) rfl (by decide) ?_
                refine w_icmp_ge rfl (fun h => absurd h (by decide)) (fun _ => ?_)
                refine w_aload rfl rfl ?_
                refine w_getR (r := 85) rfl rfl (hR _ fmR_50_60 (by decide)) ?_
                refine w_iload rfl rfl ?_
                refine w_pushL rfl ?_
                refine w_lastv (j := 256) rfl rfl (by decide) (by unfold vp_in; decide) rfl ?_
                refine w_iincv (z := 257) rfl rfl (by decide) rfl ?_
                refine w_goto rfl ?_
                refine w_iload rfl rfl ?_
                refine w_pushI rfl ?_
                refine w_iload rfl rfl ?_
                refine w_topv (z := 4) (by decide) ?_
                refine w_imulv (z := 240) rfl (by decide) ?_
                refine w_pushI rfl ?_
                refine w_iaddv (z := 300) rfl (by decide) ?_
                refine w_icmp_ge rfl (fun h => absurd h (by decide)) (fun _ => ?_)
                refine w_aload rfl rfl ?_
                refine w_getR (r := 85) rfl rfl (hR _ fmR_50_60 (by decide)) ?_
                refine w_iload rfl rfl ?_
                refine w_pushL rfl ?_
                refine w_lastv (j := 257) rfl rfl (by decide) (by unfold vp_in; decide) rfl ?_
                refine w_iincv (z := 258) rfl rfl (by decide) rfl ?_
                refine w_goto rfl ?_
                refine w_iload rfl rfl ?_
                refine w_pushI rfl ?_
                refine w_iload rfl rfl ?_
                refine w_topv (z := 4) (by decide) ?_
                refine w_imulv (z := 240) rfl (by decide) ?_
                refine w_pushI rfl ?_
                refine w_iaddv (z := 300) rfl (by decide) ?_
                refine w_icmp_ge rfl (fun h => absurd h (by decide)) (fun _ => ?_)
                refine w_aload rfl rfl ?_
                refine w_getR (r := 85) rfl rfl (hR _ fmR_50_60 (by decide)) ?_
                refine w_iload rfl rfl ?_
                refine w_pushL rfl ?_
                refine w_lastv (j := 258) rfl rfl (by decide) (by unfold vp_in; decide) rfl ?_
                refine w_iincv (z := 259) rfl rfl (by decide) rfl ?_
                refine w_goto rfl ?_
                refine w_iload rfl rfl ?_
                refine w_pushI rfl ?_
                refine w_iload rfl rfl ?_
                refine w_topv (z := 4) (by decide) ?_
                refine w_imulv (z := 240) rfl (by decide) ?_
                refine w_pushI rfl ?_
                refine w_iaddv (z := 300) rfl (by decide) ?_
                refine w_icmp_ge rfl (fun h => absurd h (by decide)) (fun _ => ?_)
                refine w_aload rfl rfl ?_
                refine w_getR (r := 85) rfl rfl (hR _ fmR_50_60 (by decide)) ?_
                refine w_iload rfl rfl ?_
                refine w_pushL rfl ?_
                refine w_lastv (j := 259) rfl rfl (by decide) (by unfold vp_in; decide) rfl ?_
                refine w_iincv (z := 260) rfl rfl (by decide) rfl ?_
                refine w_goto rfl ?_
                refine w_iload rfl rfl ?_
                refine w_pushI rfl ?_
                refine w_iload rfl rfl ?_
                refine w_topv (z := 4) (by decide) ?_
                refine w_imulv (z := 240) rfl (by decide) ?_
                refine w_pushI rfl ?_
                refine w_iaddv (z := 300) rfl (by decide) ?_
                refine w_icmp_ge rfl (fun h => absurd h (by decide)) (fun _ => ?_)
                refine w_aload rfl rfl ?_
                refine w_getR (r := 85) rfl rfl (hR _ fmR_50_60 (by decide)) ?_
                refine w_iload rfl rfl ?_
                refine w_pushL rfl ?_
                refine w_lastv (j := 260) rfl rfl (by decide) (by unfold vp_in; decide) rfl ?_
                refine w_iincv (z := 261) rfl rfl (by decide) rfl ?_
                refine w_goto rfl ?_
                refine w_iload rfl rfl ?_
                refine w_pushI rfl ?_
                refine w_iload rfl rfl ?_
                refine w_topv (z := 4) (by decide) ?_
                refine w_imulv (z := 240) rfl (by decide) ?_
                refine w_pushI rfl ?_
                refine w_iaddv (z := 300) rfl (by decide) ?_
                refine w_icmp_ge rfl (fun h => absurd h (by decide)) (fun _ => ?_)
                refine w_aload rfl rfl ?_
                refine w_getR (r := 85) rfl rfl (hR _ fmR_50_60 (by decide)) ?_
                refine w_iload rfl rfl ?_
                refine w_pushL rfl ?_
                refine w_lastv (j := 261) rfl rfl (by decide) (by unfold vp_in; decide) rfl ?_
                refine w_iincv (z := 262) rfl rfl (by decide) rfl ?_
                refine w_goto rfl ?_
                refine w_iload rfl rfl ?_
                refine w_pushI rfl ?_
                refine w_iload rfl rfl ?_
                refine w_topv (z := 4) (by decide) ?_
                refine w_imulv (z := 240) rfl (by decide) ?_
                refine w_pushI rfl ?_
                refine w_iaddv (z := 300) rfl (by decide) ?_
                refine w_icmp_ge rfl (fun h => absurd h (by decide)) (fun _ => ?_)
                refine w_aload rfl rfl ?_
                refine w_getR (r := 85) rfl rfl (hR _ fmR_50_60 (by decide)) ?_
                refine w_iload rfl rfl ?_
                refine w_pushL rfl ?_
                refine w_lastv (j := 262) rfl rfl (by decide) (by unfold vp_in; decide) rfl ?_
                refine w_iincv (z := 263) rfl rfl (by decide) rfl ?_
                refine w_goto rfl ?_
                refine w_iload rfl rfl ?_
                refine w_pushI rfl ?_
                refine w_iload rfl rfl ?_
                refine w_topv (z := 4) (by decide) ?_
                refine w_imulv (z := 240) rfl (by decide) ?_
                refine w_pushI rfl ?_
                refine w_iaddv (z := 300) rfl (by decide) ?_
                refine w_icmp_ge rfl (fun h => absurd h (by decide)) (fun _ => ?_)
                refine w_aload rfl rfl ?_
                refine w_getR (r := 85) rfl rfl (hR _ fmR_50_60 (by decide)) ?_
                refine w_iload rfl rfl ?_
                refine w_pushL rfl ?_
                refine w_lastv (j := 263) rfl rfl (by decide) (by unfold vp_in; decide) rfl ?_
                refine w_iincv (z := 264) rfl rfl (by decide) rfl ?_
                refine w_goto rfl ?_
                refine w_iload rfl rfl ?_
                refine w_pushI rfl ?_
                refine w_iload rfl rfl ?_
                refine w_topv (z := 4) (by decide) ?_
                refine w_imulv (z := 240) rfl (by decide) ?_
                refine w_pushI rfl ?_
                refine w_iaddv (z := 300) rfl (by decide) ?_
                refine w_icmp_ge rfl (fun h => absurd h (by decide)) (fun _ => ?_)
                refine w_aload rfl rfl ?_
                refine w_getR (r := 85) rfl rfl (hR _ fmR_50_60 (by decide)) ?_
                refine w_iload rfl rfl ?_
                refine w_pushL rfl ?_
                refine w_lastv (j := 264) rfl rfl (by decide) (by unfold vp_in; decide) rfl ?_
                refine w_iincv (z := 265) rfl rfl (by decide) rfl ?_
                refine w_goto rfl ?_
                refine w_iload rfl rfl ?_
                refine w_pushI rfl ?_
                refine w_iload rfl rfl ?_
                refine w_topv (z := 4) (by decide) ?_
                refine w_imulv (z := 240) rfl (by decide) ?_
                refine w_pushI rfl ?_
                refine w_iaddv (z := 300) rfl (by decide) ?_
                refine w_icmp_ge rfl (fun h => absurd h (by decide)) (fun _ => ?_)
                refine w_aload rfl rfl ?_
                refine w_getR (r := 85) rfl rfl (hR _ fmR_50_60 (by decide)) ?_
                refine w_iload rfl rfl ?_
                refine w_pushL rfl ?_
                refine w_lastv (j := 265) rfl rfl (by decide) (by unfold vp_in; decide) rfl ?_
                refine w_iincv (z := 266) rfl rfl (by decide) rfl ?_
                refine w_goto rfl ?_
                refine w_iload rfl rfl ?_
                refine w_pushI rfl ?_
                refine w_iload rfl rfl ?_
                refine w_topv (z := 4) (by decide) ?_
                refine w_imulv (z := 240) rfl (by decide) ?_
                refine w_pushI rfl ?_
                refine w_iaddv (z := 300) rfl (by decide) ?_
                refine w_icmp_ge rfl (fun h => absurd h (by decide)) (fun _ => ?_)
                refine w_aload rfl rfl ?_
                refine w_getR (r := 85) rfl rfl (hR _ fmR_50_60 (by decide)) ?_
                refine w_iload rfl rfl ?_
                refine w_pushL rfl ?_
                refine w_lastv (j := 266) rfl rfl (by decide) (by unfold vp_in; decide) rfl ?_
                refine w_iincv (z := 267) rfl rfl (by decide) rfl ?_
                refine w_goto rfl ?_
                refine w_iload rfl rfl ?_
                refine w_pushI rfl ?_
                refine w_iload rfl rfl ?_
                refine w_topv (z := 4) (by decide) ?_
                refine w_imulv (z := 240) rfl (by decide) ?_
                refine w_pushI rfl ?_
                refine w_iaddv (z := 300) rfl (by decide) ?_
                refine w_icmp_ge rfl (fun h => absurd h (by decide)) (fun _ => ?_)
                refine w_aload rfl rfl ?_
                refine w_getR (r := 85) rfl rfl (hR _ fmR_50_60 (by decide)) ?_
                refine w_iload rfl rfl ?_
                refine w_pushL rfl ?_
                refine w_lastv (j := 267) rfl rfl (by decide) (by unfold vp_in; decide) rfl ?_
                refine w_iincv (z := 268) rfl rfl (by decide) rfl ?_
                refine w_goto rfl ?_
                refine w_iload rfl rfl ?_
                refine w_pushI rfl ?_
                refine w_iload rfl rfl ?_
                refine w_topv (z := 4) (by decide) ?_
                refine w_imulv (z := 240) rfl (by decide) ?_
                refine w_pushI rfl ?_
                refine w_iaddv (z := 300) rfl (by decide) ?_
                refine w_icmp_ge rfl (fun h => absurd h (by decide)) (fun _ => ?_)
                refine w_aload rfl rfl ?_
                refine w_getR (r := 85) rfl rfl (hR _ fmR_50_60 (by decide)) ?_
                refine w_iload rfl rfl ?_
                refine w_pushL rfl ?_
                refine w_lastv (j := 268) rfl rfl (by decide) (by unfold vp_in; decide) rfl ?_
                refine w_iincv (z := 269) rfl rfl (by decide) rfl ?_
                refine w_goto rfl ?_
                refine w_iload rfl rfl ?_
                refine w_pushI rfl ?_
                refine w_iload rfl rfl ?_
                refine w_topv (z := 4) (by decide) ?_
                refine w_imulv (z := 240) rfl (by decide) ?_
                refine w_pushI rfl ?_
                refine w_iaddv (z := 300) rfl (by decide) ?_
                refine w_icmp_ge rfl (fun h => absurd h (by decide)) (fun _ => ?_)
                refine w_aload rfl rfl ?_
                refine w_getR (r := 85) rfl rfl (hR _ fmR_50_60 (by decide)) ?_
                refine w_iload rfl rfl ?_
                refine w_pushL rfl ?_
                refine w_lastv (j := 269) rfl rfl (by decide) (by unfold vp_in; decide) rfl ?_
                refine w_iincv (z := 270) rfl rfl (by decide) rfl ?_
                refine w_goto rfl ?_
                refine w_iload rfl rfl ?_
                refine w_pushI rfl ?_
                refine w_iload rfl rfl ?_
                refine w_topv (z := 4) (by decide) ?_
                refine w_imulv (z := 240) rfl (by decide) ?_
                refine w_pushI rfl ?_
                refine w_iaddv (z := 300) rfl (by decide) ?_
                refine w_icmp_ge rfl (fun h => absurd h (by decide)) (fun _ => ?_)
                refine w_aload rfl rfl ?_
                refine w_getR (r := 85) rfl rfl (hR _ fmR_50_60 (by decide)) ?_
                refine w_iload rfl rfl ?_
                refine w_pushL rfl ?_
                refine w_lastv (j := 270) rfl rfl (by decide) (by unfold vp_in; decide) rfl ?_
                refine w_iincv (z := 271) rfl rfl (by decide) rfl ?_
                refine w_goto rfl ?_
                refine w_iload rfl rfl ?_
                refine w_pushI rfl ?_
                refine w_iload rfl rfl ?_
                refine w_topv (z := 4) (by decide) ?_
                refine w_imulv (z := 240) rfl (by decide) ?_
                refine w_pushI rfl ?_
                refine w_iaddv (z := 300) rfl (by decide) ?_
                refine w_icmp_ge rfl (fun h => absurd h (by decide)) (fun _ => ?_)
                refine w_aload rfl rfl ?_
                refine w_getR (r := 85) rfl rfl (hR _ fmR_50_60 (by decide)) ?_
                refine w_iload rfl rfl ?_
                refine w_pushL rfl ?_
                refine w_lastv (j := 271) rfl rfl (by decide) (by unfold vp_in; decide) rfl ?_
                refine w_iincv (z := 272) rfl rfl (by decide) rfl ?_
                refine w_goto rfl ?_
                refine w_iload rfl rfl ?_
                refine w_pushI rfl ?_
                refine w_iload rfl rfl ?_
                refine w_topv (z := 4) (by decide) ?_
                refine w_imulv (z := 240) rfl (by decide) ?_
                refine w_pushI rfl ?_
                refine w_iaddv (z := 300) rfl (by decide) ?_
                refine w_icmp_ge rfl (fun h => absurd h (by decide)) (fun _ => ?_)
                refine w_aload rfl rfl ?_
                refine w_getR (r := 85) rfl rfl (hR _ fmR_50_60 (by decide)) ?_
                refine w_iload rfl rfl ?_
                refine w_pushL rfl ?_
                refine w_lastv (j := 272) rfl rfl (by decide) (by unfold vp_in; decide) rfl ?_
                refine w_iincv (z := 273) rfl rfl (by decide) rfl ?_
                refine w_goto rfl ?_
                refine w_iload rfl rfl ?_
                refine w_pushI rfl ?_
                refine w_iload rfl rfl ?_
                refine w_topv (z := 4) (by decide) ?_
                refine w_imulv (z := 240) rfl (by decide) ?_
                refine w_pushI rfl ?_
                refine w_iaddv (z := 300) rfl (by decide) ?_
                refine w_icmp_ge rfl (fun h => absurd h (by decide)) (fun _ => ?_)
                refine w_aload rfl rfl ?_
                refine w_getR (r := 85) rfl rfl (hR _ fmR_50_60 (by decide)) ?_
                refine w_iload rfl rfl ?_
                refine w_pushL rfl ?_
                refine w_lastv (j := 273) rfl rfl (by decide) (by unfold vp_in; decide) rfl ?_
                refine w_iincv (z := 274) rfl rfl (by decide) rfl ?_
                refine w_goto rfl ?_
                refine w_iload rfl rfl ?_
                refine w_pushI rfl ?_
                refine w_iload rfl rfl ?_
                refine w_topv (z := 4) (by decide) ?_
                refine w_imulv (z := 240) rfl (by decide) ?_
                refine w_pushI rfl ?_
                refine w_iaddv (z := 300) rfl (by decide) ?_
                refine w_icmp_ge rfl (fun h => absurd h (by decide)) (fun _ => ?_)
                refine w_aload rfl rfl ?_
                refine w_getR (r := 85) rfl rfl (hR _ fmR_50_60 (by decide)) ?_
                refine w_iload rfl rfl ?_
                refine w_pushL rfl ?_
                refine w_lastv (j := 274) rfl rfl (by decide) (by unfold vp_in; decide) rfl ?_
                refine w_iincv (z := 275) rfl rfl (by decide) rfl ?_
                refine w_goto rfl ?_
                refine w_iload rfl rfl ?_
                refine w_pushI rfl ?_
                refine w_iload rfl rfl ?_
                refine w_topv (z := 4) (by decide) ?_
                refine w_imulv (z := 240) rfl (by decide) ?_
                refine w_pushI rfl ?_
                refine w_iaddv (z := 300) rfl (by decide) ?_
                refine w_icmp_ge rfl (fun h => absurd h (by decide)) (fun _ => ?_)
                refine w_aload rfl rfl ?_
                refine w_getR (r := 85) rfl rfl (hR _ fmR_50_60 (by decide)) ?_
                refine w_iload rfl rfl ?_
                refine w_pushL rfl ?_
                refine w_lastv (j := 275) rfl rfl (by decide) (by unfold vp_in; decide) rfl ?_
                refine w_iincv (z := 276) rfl rfl (by decide) rfl ?_
                refine w_goto rfl ?_
                refine w_iload rfl rfl ?_
                refine w_pushI rfl ?_
                refine w_iload rfl rfl ?_
                refine w_topv (z := 4) (by decide) ?_
                refine w_imulv (z := 240) rfl (by decide) ?_
                refine w_pushI rfl ?_
                refine w_iaddv (z := 300) rfl (by decide) ?_
                refine w_icmp_ge rfl (fun h => absurd h (by decide)) (fun _ => ?_)
                refine w_aload rfl rfl ?_
                refine w_getR (r := 85) rfl rfl (hR _ fmR_50_60 (by decide)) ?_
                refine w_iload rfl rfl ?_
                refine w_pushL rfl ?_
                refine w_lastv (j := 276) rfl rfl (by decide) (by unfold vp_in; decide) rfl ?_
                refine w_iincv (z := 277) rfl rfl (by decide) rfl ?_
                refine w_goto rfl ?_
                refine w_iload rfl rfl ?_
                refine w_pushI rfl ?_
                refine w_iload rfl rfl ?_
                refine w_topv (z := 4) (by decide) ?_
                refine w_imulv (z := 240) rfl (by decide) ?_
                refine w_pushI rfl ?_
                refine w_iaddv (z := 300) rfl (by decide) ?_
                refine w_icmp_ge rfl (fun h => absurd h (by decide)) (fun _ => ?_)
                refine w_aload rfl rfl ?_
                refine w_getR (r := 85) rfl rfl (hR _ fmR_50_60 (by decide)) ?_
                refine w_iload rfl rfl ?_
                refine w_pushL rfl ?_
                refine w_lastv (j := 277) rfl rfl (by decide) (by unfold vp_in; decide) rfl ?_
                refine w_iincv (z := 278) rfl rfl (by decide) rfl ?_
                refine w_goto rfl ?_
                refine w_iload rfl rfl ?_
                refine w_pushI rfl ?_
                refine w_iload rfl rfl ?_
                refine w_topv (z := 4) (by decide) ?_
                refine w_imulv (z := 240) rfl (by decide) ?_
                refine w_pushI rfl ?_
                refine w_iaddv (z := 300) rfl (by decide) ?_
                refine w_icmp_ge rfl (fun h => absurd h (by decide)) (fun _ => ?_)
                refine w_aload rfl rfl ?_
                refine w_getR (r := 85) rfl rfl (hR _ fmR_50_60 (by decide)) ?_
                refine w_iload rfl rfl ?_
                refine w_pushL rfl ?_
                refine w_lastv (j := 278) rfl rfl (by decide) (by unfold vp_in; decide) rfl ?_
                refine w_iincv (z := 279) rfl rfl (by decide) rfl ?_
                refine w_goto rfl ?_
                refine w_iload rfl rfl ?_
                refine w_pushI rfl ?_
                refine w_iload rfl rfl ?_
                refine w_topv (z := 4) (by decide) ?_
                refine w_imulv (z := 240) rfl (by decide) ?_
                refine w_pushI rfl ?_
                refine w_iaddv (z := 300) rfl (by decide) ?_
                refine w_icmp_ge rfl (fun h => absurd h (by decide)) (fun _ => ?_)
                refine w_aload rfl rfl ?_
                refine w_getR (r := 85) rfl rfl (hR _ fmR_50_60 (by decide)) ?_
                refine w_iload rfl rfl ?_
                refine w_pushL rfl ?_
                refine w_lastv (j := 279) rfl rfl (by decide) (by unfold vp_in; decide) rfl ?_
                refine w_iincv (z := 280) rfl rfl (by decide) rfl ?_
                refine w_goto rfl ?_
                refine w_iload rfl rfl ?_
                refine w_pushI rfl ?_
                refine w_iload rfl rfl ?_
                refine w_topv (z := 4) (by decide) ?_
                refine w_imulv (z := 240) rfl (by decide) ?_
                refine w_pushI rfl ?_
                refine w_iaddv (z := 300) rfl (by decide) ?_
                refine w_icmp_ge rfl (fun h => absurd h (by decide)) (fun _ => ?_)
                refine w_aload rfl rfl ?_
                refine w_getR (r := 85) rfl rfl (hR _ fmR_50_60 (by decide)) ?_
                refine w_iload rfl rfl ?_
                refine w_pushL rfl ?_
                refine w_lastv (j := 280) rfl rfl (by decide) (by unfold vp_in; decide) rfl ?_
                refine w_iincv (z := 281) rfl rfl (by decide) rfl ?_
                refine w_goto rfl ?_
                refine w_iload rfl rfl ?_
                refine w_pushI rfl ?_
                refine w_iload rfl rfl ?_
                refine w_topv (z := 4) (by decide) ?_
                refine w_imulv (z := 240) rfl (by decide) ?_
                refine w_pushI rfl ?_
                refine w_iaddv (z := 300) rfl (by decide) ?_
                refine w_icmp_ge rfl (fun h => absurd h (by decide)) (fun _ => ?_)
                refine w_aload rfl rfl ?_
                refine w_getR (r := 85) rfl rfl (hR _ fmR_50_60 (by decide)) ?_
                refine w_iload rfl rfl ?_
                refine w_pushL rfl ?_
                refine w_lastv (j := 281) rfl rfl (by decide) (by unfold vp_in; decide) rfl ?_
                refine w_iincv (z := 282) rfl rfl (by decide) rfl ?_
                refine w_goto rfl ?_
                refine w_iload rfl rfl ?_
                refine w_pushI rfl ?_
                refine w_iload rfl rfl ?_
                refine w_topv (z := 4) (by decide) ?_
                refine w_imulv (z := 240) rfl (by decide) ?_
                refine w_pushI rfl ?_
                refine w_iaddv (z := 300) rfl (by decide) ?_
                refine w_icmp_ge rfl (fun h => absurd h (by decide)) (fun _ => ?_)
                refine w_aload rfl rfl ?_
                refine w_getR (r := 85) rfl rfl (hR _ fmR_50_60 (by decide)) ?_
                refine w_iload rfl rfl ?_
                refine w_pushL rfl ?_
                refine w_lastv (j := 282) rfl rfl (by decide) (by unfold vp_in; decide) rfl ?_
                refine w_iincv (z := 283) rfl rfl (by decide) rfl ?_
                refine w_goto rfl ?_
                refine w_iload rfl rfl ?_
                refine w_pushI rfl ?_
                refine w_iload rfl rfl ?_
                refine w_topv (z := 4) (by decide) ?_
                refine w_imulv (z := 240) rfl (by decide) ?_
                refine w_pushI rfl ?_
                refine w_iaddv (z := 300) rfl (by decide) ?_
                refine w_icmp_ge rfl (fun h => absurd h (by decide)) (fun _ => ?_)
                refine w_aload rfl rfl ?_
                refine w_getR (r := 85) rfl rfl (hR _ fmR_50_60 (by decide)) ?_
                refine w_iload rfl rfl ?_
                refine w_pushL rfl ?_
                refine w_lastv (j := 283) rfl rfl (by decide) (by unfold vp_in; decide) rfl ?_
                refine w_iincv (z := 284) rfl rfl (by decide) rfl ?_
                refine w_goto rfl ?_
                refine w_iload rfl rfl ?_
                refine w_pushI rfl ?_
                refine w_iload rfl rfl ?_
                refine w_topv (z := 4) (by decide) ?_
                refine w_imulv (z := 240) rfl (by decide) ?_
                refine w_pushI rfl ?_
                refine w_iaddv (z := 300) rfl (by decide) ?_
                refine w_icmp_ge rfl (fun h => absurd h (by decide)) (fun _ => ?_)
                refine w_aload rfl rfl ?_
                refine w_getR (r := 85) rfl rfl (hR _ fmR_50_60 (by decide)) ?_
                refine w_iload rfl rfl ?_
                refine w_pushL rfl ?_
                refine w_lastv (j := 284) rfl rfl (by decide) (by unfold vp_in; decide) rfl ?_
                refine w_iincv (z := 285) rfl rfl (by decide) rfl ?_
                refine w_goto rfl ?_
                refine w_iload rfl rfl ?_
                refine w_pushI rfl ?_
                refine w_iload rfl rfl ?_
                refine w_topv (z := 4) (by decide) ?_
                refine w_imulv (z := 240) rfl (by decide) ?_
                refine w_pushI rfl ?_
                refine w_iaddv (z := 300) rfl (by decide) ?_
                refine w_icmp_ge rfl (fun h => absurd h (by decide)) (fun _ => ?_)
                refine w_aload rfl rfl ?_
                refine w_getR (r := 85) rfl rfl (hR _ fmR_50_60 (by decide)) ?_
                refine w_iload rfl rfl ?_
                refine w_pushL rfl ?_
                refine w_lastv (j := 285) rfl rfl (by decide) (by unfold vp_in; decide) rfl ?_
                refine w_iincv (z := 286) rfl rfl (by decide) rfl ?_
                refine w_goto rfl ?_
                refine w_iload rfl rfl ?_
                refine w_pushI rfl ?_
                refine w_iload rfl rfl ?_
                refine w_topv (z := 4) (by decide) ?_
                refine w_imulv (z := 240) rfl (by decide) ?_
                refine w_pushI rfl ?_
                refine w_iaddv (z := 300) rfl (by decide) ?_
                refine w_icmp_ge rfl (fun h => absurd h (by decide)) (fun _ => ?_)
                refine w_aload rfl rfl ?_
                refine w_getR (r := 85) rfl rfl (hR _ fmR_50_60 (by decide)) ?_
                refine w_iload rfl rfl ?_
                refine w_pushL rfl ?_
                refine w_lastv (j := 286) rfl rfl (by decide) (by unfold vp_in; decide) rfl ?_
                refine w_iincv (z := 287) rfl rfl (by decide) rfl ?_
                refine w_goto rfl ?_
                refine w_iload rfl rfl ?_
                refine w_pushI rfl ?_
                refine w_iload rfl rfl ?_
                refine w_topv (z := 4) (by decide) ?_
                refine w_imulv (z := 240) rfl (by decide) ?_
                refine w_pushI rfl ?_
                refine w_iaddv (z := 300) rfl (by decide) ?_
                refine w_icmp_ge rfl (fun h => absurd h (by decide)) (fun _ => ?_)
                refine w_aload rfl rfl ?_
                refine w_getR (r := 85) rfl rfl (hR _ fmR_50_60 (by decide)) ?_
                refine w_iload rfl rfl ?_
                refine w_pushL rfl ?_
                refine w_lastv (j := 287) rfl rfl (by decide) (by unfold vp_in; decide) rfl ?_
                refine w_iincv (z := 288) rfl rfl (by decide) rfl ?_
                refine w_goto rfl ?_
                refine w_iload rfl rfl ?_
                refine w_pushI rfl ?_
                refine w_iload rfl rfl ?_
                refine w_topv (z := 4) (by decide) ?_
                refine w_imulv (z := 240) rfl (by decide) ?_
                refine w_pushI rfl ?_
                refine w_iaddv (z := 300) rfl (by decide) ?_
                refine w_icmp_ge rfl (fun h => absurd h (by decide)) (fun _ => ?_)
                refine w_aload rfl rfl ?_
                refine w_getR (r := 85) rfl rfl (hR _ fmR_50_60 (by decide)) ?_
                refine w_iload rfl rfl ?_
                refine w_pushL rfl ?_
                refine w_lastv (j := 288) rfl rfl (by decide) (by unfold vp_in; decide) rfl ?_
                refine w_iincv (z := 289) rfl rfl (by decide) rfl ?_
                refine w_goto rfl ?_
                refine w_iload rfl rfl ?_
                refine w_pushI rfl ?_
                refine w_iload rfl rfl ?_
                refine w_topv (z := 4) (by decide) ?_
                refine w_imulv (z := 240) rfl (by decide) ?_
                refine w_pushI rfl ?_
                refine w_iaddv (z := 300) rfl (by decide) ?_
                refine w_icmp_ge rfl (fun h => absurd h (by decide)) (fun _ => ?_)
                refine w_aload rfl rfl ?_
                refine w_getR (r := 85) rfl rfl (hR _ fmR_50_60 (by decide)) ?_
                refine w_iload rfl rfl ?_
                refine w_pushL rfl ?_
                refine w_lastv (j := 289) rfl rfl (by decide) (by unfold vp_in; decide) rfl ?_
                refine w_iincv (z := 290) rfl rfl (by decide) rfl ?_
                refine w_goto rfl ?_
                refine w_iload rfl rfl ?_
                refine w_pushI rfl ?_
                refine w_iload rfl rfl ?_
                refine w_topv (z := 4) (by decide) ?_
                refine w_imulv (z := 240) rfl (by decide) ?_
                refine w_pushI rfl ?_
                refine w_iaddv (z := 300) rfl (by decide) ?_
                refine w_icmp_ge rfl (fun h => absurd h (by decide)) (fun _ => ?_)
                refine w_aload rfl rfl ?_
                refine w_getR (r := 85) rfl rfl (hR _ fmR_50_60 (by decide)) ?_
                refine w_iload rfl rfl ?_
                refine w_pushL rfl ?_
                refine w_lastv (j := 290) rfl rfl (by decide) (by unfold vp_in; decide) rfl ?_
                refine w_iincv (z := 291) rfl rfl (by decide) rfl ?_
                refine w_goto rfl ?_
                refine w_iload rfl rfl ?_
                refine w_pushI rfl ?_
                refine w_iload rfl rfl ?_
                refine w_topv (z := 4) (by decide) ?_
                refine w_imulv (z := 240) rfl (by decide) ?_
                refine w_pushI rfl ?_
                refine w_iaddv (z := 300) rfl (by decide) ?_
                refine w_icmp_ge rfl (fun h => absurd h (by decide)) (fun _ => ?_)
                refine w_aload rfl rfl ?_
                refine w_getR (r := 85) rfl rfl (hR _ fmR_50_60 (by decide)) ?_
                refine w_iload rfl rfl ?_
                refine w_pushL rfl ?_
                refine w_lastv (j := 291) rfl rfl (by decide) (by unfold vp_in; decide) rfl ?_
                refine w_iincv (z := 292) rfl rfl (by decide) rfl ?_
                refine w_goto rfl ?_
                refine w_iload rfl rfl ?_
                refine w_pushI rfl ?_
                refine w_iload rfl rfl ?_
                refine w_topv (z := 4) (by decide) ?_
                refine w_imulv (z := 240) rfl (by decide) ?_
                refine w_pushI rfl ?_
                refine w_iaddv (z := 300) rfl (by decide) ?_
                refine w_icmp_ge rfl (fun h => absurd h (by decide)) (fun _ => ?_)
                refine w_aload rfl rfl ?_
                refine w_getR (r := 85) rfl rfl (hR _ fmR_50_60 (by decide)) ?_
                refine w_iload rfl rfl ?_
                refine w_pushL rfl ?_
                refine w_lastv (j := 292) rfl rfl (by decide) (by unfold vp_in; decide) rfl ?_
                refine w_iincv (z := 293) rfl rfl (by decide) rfl ?_
                refine w_goto rfl ?_
                refine w_iload rfl rfl ?_
                refine w_pushI rfl ?_
                refine w_iload rfl rfl ?_
                refine w_topv (z := 4) (by decide) ?_
                refine w_imulv (z := 240) rfl (by decide) ?_
                refine w_pushI rfl ?_
                refine w_iaddv (z := 300) rfl (by decide) ?_
                refine w_icmp_ge rfl (fun h => absurd h (by decide)) (fun _ => ?_)
                refine w_aload rfl rfl ?_
                refine w_getR (r := 85) rfl rfl (hR _ fmR_50_60 (by decide)) ?_
                refine w_iload rfl rfl ?_
                refine w_pushL rfl ?_
                refine w_lastv (j := 293) rfl rfl (by decide) (by unfold vp_in; decide) rfl ?_
                refine w_iincv (z := 294) rfl rfl (by decide) rfl ?_
                refine w_goto rfl ?_
                refine w_iload rfl rfl ?_
                refine w_pushI rfl ?_
                refine w_iload rfl rfl ?_
                refine w_topv (z := 4) (by decide) ?_
                refine w_imulv (z := 240) rfl (by decide) ?_
                refine w_pushI rfl ?_
                refine w_iaddv (z := 300) rfl (by decide) ?_
                refine w_icmp_ge rfl (fun h => absurd h (by decide)) (fun _ => ?_)
                refine w_aload rfl rfl ?_
                refine w_getR (r := 85) rfl rfl (hR _ fmR_50_60 (by decide)) ?_
                refine w_iload rfl rfl ?_
                refine w_pushL rfl ?_
                refine w_lastv (j := 294) rfl rfl (by decide) (by unfold vp_in; decide) rfl ?_
                refine w_iincv (z := 295) rfl rfl (by decide) rfl ?_
                refine w_goto rfl ?_
                refine w_iload rfl rfl ?_
                refine w_pushI rfl ?_
                refine w_iload rfl rfl ?_
                refine w_topv (z := 4) (by decide) ?_
                refine w_imulv (z := 240) rfl (by decide) ?_
                refine w_pushI rfl ?_
                refine w_iaddv (z := 300) rfl (by decide) ?_
                refine w_icmp_ge rfl (fun h => absurd h (by decide)) (fun _ => ?_)
                refine w_aload rfl rfl ?_
                refine w_getR (r := 85) rfl rfl (hR _ fmR_50_60 (by decide)) ?_
                refine w_iload rfl rfl ?_
                refine w_pushL rfl ?_
                refine w_lastv (j := 295) rfl rfl (by decide) (by unfold vp_in; decide) rfl ?_
                refine w_iincv (z := 296) rfl rfl (by decide) rfl ?_
                refine w_goto rfl ?_
                refine w_iload rfl rfl ?_
                refine w_pushI rfl ?_
                refine w_iload rfl rfl ?_
                refine w_topv (z := 4) (by decide) ?_
                refine w_imulv (z := 240) rfl (by decide) ?_
                refine w_pushI rfl ?_
                refine w_iaddv (z := 300) rfl (by decide) ?_
                refine w_icmp_ge rfl (fun h => absurd h (by decide)) (fun _ => ?_)
                refine w_aload rfl rfl ?_
                refine w_getR (r := 85) rfl rfl (hR _ fmR_50_60 (by decide)) ?_
                refine w_iload rfl rfl ?_
                refine w_pushL rfl ?_
                refine w_lastv (j := 296) rfl rfl (by decide) (by unfold vp_in; decide) rfl ?_
                refine w_iincv (z := 297) rfl rfl (by decide) rfl ?_
                refine w_goto rfl ?_
                refine w_iload rfl rfl ?_
                refine w_pushI rfl ?_
                refine w_iload rfl rfl ?_
                refine w_topv (z := 4) (by decide) ?_
                refine w_imulv (z := 240) rfl (by decide) ?_
                refine w_pushI rfl ?_
                refine w_iaddv (z := 300) rfl (by decide) ?_
                refine w_icmp_ge rfl (fun h => absurd h (by decide)) (fun _ => ?_)
                refine w_aload rfl rfl ?_
                refine w_getR (r := 85) rfl rfl (hR _ fmR_50_60 (by decide)) ?_
                refine w_iload rfl rfl ?_
                refine w_pushL rfl ?_
                refine w_lastv (j := 297) rfl rfl (by decide) (by unfold vp_in; decide) rfl ?_
                refine w_iincv (z := 298) rfl rfl (by decide) rfl ?_
                refine w_goto rfl ?_
                refine w_iload rfl rfl ?_
                refine w_pushI rfl ?_
                refine w_iload rfl rfl ?_
                refine w_topv (z := 4) (by decide) ?_
                refine w_imulv (z := 240) rfl (by decide) ?_
                refine w_pushI rfl ?_
                refine w_iaddv (z := 300) rfl (by decide) ?_
                refine w_icmp_ge rfl (fun h => absurd h (by decide)) (fun _ => ?_)
                refine w_aload rfl rfl ?_
                refine w_getR (r := 85) rfl rfl (hR _ fmR_50_60 (by decide)) ?_
                refine w_iload rfl rfl ?_
                refine w_pushL rfl ?_
                refine w_lastv (j := 298) rfl rfl (by decide) (by unfold vp_in; decide) rfl ?_
                refine w_iincv (z := 299) rfl rfl (by decide) rfl ?_
                refine w_goto rfl ?_
                refine w_iload rfl rfl ?_
                refine w_pushI rfl ?_
                refine w_iload rfl rfl ?_
                refine w_topv (z := 4) (by decide) ?_
                refine w_imulv (z := 240) rfl (by decide) ?_
                refine w_pushI rfl ?_
                refine w_iaddv (z := 300) rfl (by decide) ?_
                refine w_icmp_ge rfl (fun h => absurd h (by decide)) (fun _ => ?_)
                refine w_aload rfl rfl ?_
                refine w_getR (r := 85) rfl rfl (hR _ fmR_50_60 (by decide)) ?_
                refine w_iload rfl rfl ?_
                refine w_pushL rfl ?_
                refine w_lastv (j := 299) rfl rfl (by decide) (by unfold vp_in; decide) rfl ?_
                refine w_iincv (z := 300) rfl rfl (by decide) rfl ?_
                refine w_goto rfl ?_
                refine w_iload rfl rfl ?_
                refine w_pushI rfl ?_
                refine w_iload rfl rfl ?_
                refine w_topv (z := 4) (by decide) ?_
                refine w_imulv (z := 240) rfl (by decide) ?_
                refine w_pushI rfl ?_
                refine w_iaddv (z := 300) rfl (by decide) ?_
                refine w_icmp_ge rfl (fun _ => ?_) (fun h => absurd (by decide) h)
                refine w_pushI rfl ?_
                refine w_iret rfl (Or.inl rfl) ?_
                exact congrArg (fun v => some (Value.int v)) (show (1 : Int32) = f1_row (4) b c by have e0 : (4 : Int32).toInt = 4 := rfl; exact ite_eq_of (fun _ => ite_eq_of (fun hc => absurd hc (by omega)) (fun _ => rfl)) (fun hc => absurd (by omega) hc))
              · obtain rfl : a = 5 := i_is hs7 (by decide)
                refine w_iastv (j := 5) rfl rfl (by decide) (by unfold vp_in; decide) rfl ?_
                refine w_aload rfl rfl ?_
                refine w_getR (r := 84) rfl rfl (hR _ fmR_50_59 (by decide)) ?_
                refine w_iload rfl rfl ?_
                refine w_topv (z := 5) (by decide) ?_
                refine w_iload rfl rfl ?_
                refine w_iastv (j := 5) rfl rfl (by decide) (by unfold vp_in; decide) rfl ?_
                refine w_pushI rfl ?_
                refine w_iload rfl rfl ?_
                refine w_topv (z := 5) (by decide) ?_
                refine w_imulv (z := 300) rfl (by decide) ?_
                refine w_istore rfl rfl ?_
                refine w_iload rfl rfl ?_
                refine w_pushI rfl ?_
                refine w_iload rfl rfl ?_
                refine w_topv (z := 5) (by decide) ?_
                refine w_imulv (z := 300) rfl (by decide) ?_
                refine w_pushI rfl ?_
                refine w_iaddv (z := 360) rfl (by decide) ?_
                refine w_icmp_ge rfl (fun h => absurd h (by decide)) (fun _ => ?_)
                refine w_aload rfl rfl ?_
                refine w_getR (r := 85) rfl rfl (hR _ fmR_50_60 (by decide)) ?_
                refine w_iload rfl rfl ?_
                refine w_pushL rfl ?_
                refine w_lastv (j := 300) rfl rfl (by decide) (by unfold vp_in; decide) rfl ?_
                refine w_iincv (z := 301) rfl rfl (by decide) rfl ?_
                refine w_goto rfl ?_
                refine w_iload rfl rfl ?_
                refine w_pushI rfl ?_
                refine w_iload rfl rfl ?_
                refine w_topv (z := 5) (by decide) ?_
                refine w_imulv (z := 300) rfl (by decide) ?_
                refine w_pushI rfl ?_
                refine w_iaddv (z := 360) rfl (by decide) ?_
                refine w_icmp_ge rfl (fun h => absurd h (by decide)) (fun _ => ?_)
                refine w_aload rfl rfl ?_
                refine w_getR (r := 85) rfl rfl (hR _ fmR_50_60 (by decide)) ?_
                refine w_iload rfl rfl ?_
                refine w_pushL rfl ?_
                refine w_lastv (j := 301) rfl rfl (by decide) (by unfold vp_in; decide) rfl ?_
                refine w_iincv (z := 302) rfl rfl (by decide) rfl ?_
                refine w_goto rfl ?_
                refine w_iload rfl rfl ?_
                refine w_pushI rfl ?_
                refine w_iload rfl rfl ?_
                refine w_topv (z := 5) (by decide) ?_
                refine w_imulv (z := 300) rfl (by decide) ?_
                refine w_pushI rfl ?_
                refine w_iaddv (z := 360) rfl (by decide) ?_
                refine w_icmp_ge rfl (fun h => absurd h (by decide)) (fun _ => ?_)
                refine w_aload rfl rfl ?_
                refine w_getR (r := 85) rfl rfl (hR _ fmR_50_60 (by decide)) ?_
                refine w_iload rfl rfl ?_
                refine w_pushL rfl ?_
                refine w_lastv (j := 302) rfl rfl (by decide) (by unfold vp_in; decide) rfl ?_
                refine w_iincv (z := 303) rfl rfl (by decide) rfl ?_
                refine w_goto rfl ?_
                refine w_iload rfl rfl ?_
                refine w_pushI rfl ?_
                refine w_iload rfl rfl ?_
                refine w_topv (z := 5) (by decide) ?_
                refine w_imulv (z := 300) rfl (by decide) ?_
                refine w_pushI rfl ?_
                refine w_iaddv (z := 360) rfl (by decide) ?_
                refine w_icmp_ge rfl (fun h => absurd h (by decide)) (fun _ => ?_)
                refine w_aload rfl rfl ?_
                refine w_getR (r := 85) rfl rfl (hR _ fmR_50_60 (by decide)) ?_
                refine w_iload rfl rfl ?_
                refine w_pushL rfl ?_
                refine w_lastv (j := 303) rfl rfl (by decide) (by unfold vp_in; decide) rfl ?_
                refine w_iincv (z := 304) rfl rfl (by decide) rfl ?_
                refine w_goto rfl ?_
                refine w_iload rfl rfl ?_
                refine w_pushI rfl ?_
                refine w_iload rfl rfl ?_
                refine w_topv (z := 5) (by decide) ?_
                refine w_imulv (z := 300) rfl (by decide) ?_
                refine w_pushI rfl ?_
                refine w_iaddv (z := 360) rfl (by decide) ?_
                refine w_icmp_ge rfl (fun h => absurd h (by decide)) (fun _ => ?_)
                refine w_aload rfl rfl ?_
                refine w_getR (r := 85) rfl rfl (hR _ fmR_50_60 (by decide)) ?_
                refine w_iload rfl rfl ?_
                refine w_pushL rfl ?_
                refine w_lastv (j := 304) rfl rfl (by decide) (by unfold vp_in; decide) rfl ?_
                refine w_iincv (z := 305) rfl rfl (by decide) rfl ?_
                refine w_goto rfl ?_
                refine w_iload rfl rfl ?_
                refine w_pushI rfl ?_
                refine w_iload rfl rfl ?_
                refine w_topv (z := 5) (by decide) ?_
                refine w_imulv (z := 300) rfl (by decide) ?_
                refine w_pushI rfl ?_
                refine w_iaddv (z := 360) rfl (by decide) ?_
                refine w_icmp_ge rfl (fun h => absurd h (by decide)) (fun _ => ?_)
                refine w_aload rfl rfl ?_
                refine w_getR (r := 85) rfl rfl (hR _ fmR_50_60 (by decide)) ?_
                refine w_iload rfl rfl ?_
                refine w_pushL rfl ?_
                refine w_lastv (j := 305) rfl rfl (by decide) (by unfold vp_in; decide) rfl ?_
                refine w_iincv (z := 306) rfl rfl (by decide) rfl ?_
                refine w_goto rfl ?_
                refine w_iload rfl rfl ?_
                refine w_pushI rfl ?_
                refine w_iload rfl rfl ?_
                refine w_topv (z := 5) (by decide) ?_
                refine w_imulv (z := 300) rfl (by decide) ?_
                refine w_pushI rfl ?_
                refine w_iaddv (z := 360) rfl (by decide) ?_
                refine w_icmp_ge rfl (fun h => absurd h (by decide)) (fun _ => ?_)
                refine w_aload rfl rfl ?_
                refine w_getR (r := 85) rfl rfl (hR _ fmR_50_60 (by decide)) ?_
                refine w_iload rfl rfl ?_
                refine w_pushL rfl ?_
                refine w_lastv (j := 306) rfl rfl (by decide) (by unfold vp_in; decide) rfl ?_
                refine w_iincv (z := 307) rfl rfl (by decide) rfl ?_
                refine w_goto rfl ?_
                refine w_iload rfl rfl ?_
                refine w_pushI rfl ?_
                refine w_iload rfl rfl ?_
                refine w_topv (z := 5) (by decide) ?_
                refine w_imulv (z := 300) rfl (by decide) ?_
                refine w_pushI rfl ?_
                refine w_iaddv (z := 360) rfl (by decide) ?_
                refine w_icmp_ge rfl (fun h => absurd h (by decide)) (fun _ => ?_)
                refine w_aload rfl rfl ?_
                refine w_getR (r := 85) rfl rfl (hR _ fmR_50_60 (by decide)) ?_
                refine w_iload rfl rfl ?_
                refine w_pushL rfl ?_
                refine w_lastv (j := 307) rfl rfl (by decide) (by unfold vp_in; decide) rfl ?_
                refine w_iincv (z := 308) rfl rfl (by decide) rfl ?_
                refine w_goto rfl ?_
                refine w_iload rfl rfl ?_
                refine w_pushI rfl ?_
                refine w_iload rfl rfl ?_
                refine w_topv (z := 5) (by decide) ?_
                refine w_imulv (z := 300) rfl (by decide) ?_
                refine w_pushI rfl ?_
                refine w_iaddv (z := 360) rfl (by decide) ?_
                refine w_icmp_ge rfl (fun h => absurd h (by decide)) (fun _ => ?_)
                refine w_aload rfl rfl ?_
                refine w_getR (r := 85) rfl rfl (hR _ fmR_50_60 (by decide)) ?_
                refine w_iload rfl rfl ?_
                refine w_pushL rfl ?_
                refine w_lastv (j := 308) rfl rfl (by decide) (by unfold vp_in; decide) rfl ?_
                refine w_iincv (z := 309) rfl rfl (by decide) rfl ?_
                refine w_goto rfl ?_
                refine w_iload rfl rfl ?_
                refine w_pushI rfl ?_
                refine w_iload rfl rfl ?_
                refine w_topv (z := 5) (by decide) ?_
                refine w_imulv (z := 300) rfl (by decide) ?_
                refine w_pushI rfl ?_
                refine w_iaddv (z := 360) rfl (by decide) ?_
                refine w_icmp_ge rfl (fun h => absurd h (by decide)) (fun _ => ?_)
                refine w_aload rfl rfl ?_
                refine w_getR (r := 85) rfl rfl (hR _ fmR_50_60 (by decide)) ?_
                refine w_iload rfl rfl ?_
                refine w_pushL rfl ?_
                refine w_lastv (j := 309) rfl rfl (by decide) (by unfold vp_in; decide) rfl ?_
                refine w_iincv (z := 310) rfl rfl (by decide) rfl ?_
                refine w_goto rfl ?_
                refine w_iload rfl rfl ?_
                refine w_pushI rfl ?_
                refine w_iload rfl rfl ?_
                refine w_topv (z := 5) (by decide) ?_
                refine w_imulv (z := 300) rfl (by decide) ?_
                refine w_pushI rfl ?_
                refine w_iaddv (z := 360) rfl (by decide) ?_
                refine w_icmp_ge rfl (fun h => absurd h (by decide)) (fun _ => ?_)
                refine w_aload rfl rfl ?_
                refine w_getR (r := 85) rfl rfl (hR _ fmR_50_60 (by decide)) ?_
                refine w_iload rfl rfl ?_
                refine w_pushL rfl ?_
                refine w_lastv (j := 310) rfl rfl (by decide) (by unfold vp_in; decide) rfl ?_
                refine w_iincv (z := 311) rfl rfl (by decide) rfl ?_
                refine w_goto rfl ?_
                refine w_iload rfl rfl ?_
                refine w_pushI rfl ?_
                refine w_iload rfl rfl ?_
                refine w_topv (z := 5) (by decide) ?_
                refine w_imulv (z := 300) rfl (by decide) ?_
                refine w_pushI rfl ?_
                refine w_iaddv (z := 360) rfl (by decide) ?_
                refine w_icmp_ge rfl (fun h => absurd h (by decide)) (fun _ => ?_)
                refine w_aload rfl rfl ?_
                refine w_getR (r := 85) rfl rfl (hR _ fmR_50_60 (by decide)) ?_
                refine w_iload rfl rfl ?_
                refine w_pushL rfl ?_
                refine w_lastv (j := 311) rfl rfl (by decide) (by unfold vp_in; decide) rfl ?_
                refine w_iincv (z := 312) rfl rfl (by decide) rfl ?_
                refine w_goto rfl ?_
                refine w_iload rfl rfl ?_
                refine w_pushI rfl ?_
                refine w_iload rfl rfl ?_
                refine w_topv (z := 5) (by decide) ?_
                refine w_imulv (z := 300) rfl (by decide) ?_
                refine w_pushI rfl ?_
                refine w_iaddv (z := 360) rfl (by decide) ?_
                refine w_icmp_ge rfl (fun h => absurd h (by decide)) (fun _ => ?_)
                refine w_aload rfl rfl ?_
                refine w_getR (r := 85) rfl rfl (hR _ fmR_50_60 (by decide)) ?_
                refine w_iload rfl rfl ?_
                refine w_pushL rfl ?_
                refine w_lastv (j := 312) rfl rfl (by decide) (by unfold vp_in; decide) rfl ?_
                refine w_iincv (z := 313) rfl rfl (by decide) rfl ?_
                refine w_goto rfl ?_
                refine w_iload rfl rfl ?_
                refine w_pushI rfl ?_
                refine w_iload rfl rfl ?_
                refine w_topv (z := 5) (by decide) ?_
                refine w_imulv (z := 300) rfl (by decide) ?_
                refine w_pushI rfl ?_
                refine w_iaddv (z := 360) rfl (by decide) ?_
                refine w_icmp_ge rfl (fun h => absurd h (by decide)) (fun _ => ?_)
                refine w_aload rfl rfl ?_
                refine w_getR (r := 85) rfl rfl (hR _ fmR_50_60 (by decide)) ?_
                refine w_iload rfl rfl ?_
                refine w_pushL rfl ?_
                refine w_lastv (j := 313) rfl rfl (by decide) (by unfold vp_in; decide) rfl ?_
                refine w_iincv (z := 314) rfl rfl (by decide) rfl ?_
                refine w_goto rfl ?_
                refine w_iload rfl rfl ?_
                refine w_pushI rfl ?_
                refine w_iload rfl rfl ?_
                refine w_topv (z := 5) (by decide) ?_
                refine w_imulv (z := 300) rfl (by decide) ?_
                refine w_pushI rfl ?_
                refine w_iaddv (z := 360) rfl (by decide) ?_
                refine w_icmp_ge rfl (fun h => absurd h (by decide)) (fun _ => ?_)
                refine w_aload rfl rfl ?_
                refine w_getR (r := 85) rfl rfl (hR _ fmR_50_60 (by decide)) ?_
                refine w_iload rfl rfl ?_
                refine w_pushL rfl ?_
                refine w_lastv (j := 314) rfl rfl (by decide) (by unfold vp_in; decide) rfl ?_
                refine w_iincv (z := 315) rfl rfl (by decide) rfl ?_
                refine w_goto rfl ?_
                refine w_iload rfl rfl ?_
                refine w_pushI rfl ?_
                refine w_iload rfl rfl ?_
                refine w_topv (z := 5) (by decide) ?_
                refine w_imulv (z := 300) rfl (by decide) ?_
                refine w_pushI rfl ?_
                refine w_iaddv (z := 360) rfl (by decide) ?_
                refine w_icmp_ge rfl (fun h => absurd h (by decide)) (fun _ => ?_)
                refine w_aload rfl rfl ?_
                refine w_getR (r := 85) rfl rfl (hR _ fmR_50_60 (by decide)) ?_
                refine w_iload rfl rfl ?_
                refine w_pushL rfl ?_
                refine w_lastv (j := 315) rfl rfl (by decide) (by unfold vp_in; decide) rfl ?_
                refine w_iincv (z := 316) rfl rfl (by decide) rfl ?_
                refine w_goto rfl ?_
                refine w_iload rfl rfl ?_
                refine w_pushI rfl ?_
                refine w_iload rfl rfl ?_
                refine w_topv (z := 5) (by decide) ?_
                refine w_imulv (z := 300) rfl (by decide) ?_
                refine w_pushI rfl ?_
                refine w_iaddv (z := 360) rfl (by decide) ?_
                refine w_icmp_ge rfl (fun h => absurd h (by decide)) (fun _ => ?_)
                refine w_aload rfl rfl ?_
                refine w_getR (r := 85) rfl rfl (hR _ fmR_50_60 (by decide)) ?_
                refine w_iload rfl rfl ?_
                refine w_pushL rfl ?_
                refine w_lastv (j := 316) rfl rfl (by decide) (by unfold vp_in; decide) rfl ?_
                refine w_iincv (z := 317) rfl rfl (by decide) rfl ?_
                refine w_goto rfl ?_
                refine w_iload rfl rfl ?_
                refine w_pushI rfl ?_
                refine w_iload rfl rfl ?_
                refine w_topv (z := 5) (by decide) ?_
                refine w_imulv (z := 300) rfl (by decide) ?_
                refine w_pushI rfl ?_
                refine w_iaddv (z := 360) rfl (by decide) ?_
                refine w_icmp_ge rfl (fun h => absurd h (by decide)) (fun _ => ?_)
                refine w_aload rfl rfl ?_
                refine w_getR (r := 85) rfl rfl (hR _ fmR_50_60 (by decide)) ?_
                refine w_iload rfl rfl ?_
                refine w_pushL rfl ?_
                refine w_lastv (j := 317) rfl rfl (by decide) (by unfold vp_in; decide) rfl ?_
                refine w_iincv (z := 318) rfl rfl (by decide) rfl ?_
                refine w_goto rfl ?_
                refine w_iload rfl rfl ?_
                refine w_pushI rfl ?_
                refine w_iload rfl rfl ?_
                refine w_topv (z := 5) (by decide) ?_
                refine w_imulv (z := 300) rfl (by decide) ?_
                refine w_pushI rfl ?_
                refine w_iaddv (z := 360) rfl (by decide) ?_
                refine w_icmp_ge rfl (fun h => absurd h (by decide)) (fun _ => ?_)
                refine w_aload rfl rfl ?_
                refine w_getR (r := 85) rfl rfl (hR _ fmR_50_60 (by decide)) ?_
                refine w_iload rfl rfl ?_
                refine w_pushL rfl ?_
                refine w_lastv (j := 318) rfl rfl (by decide) (by unfold vp_in; decide) rfl ?_
                refine w_iincv (z := 319) rfl rfl (by decide) rfl ?_
                refine w_goto rfl ?_
                refine w_iload rfl rfl ?_
                refine w_pushI rfl ?_
                refine w_iload rfl rfl ?_
                refine w_topv (z := 5) (by decide) ?_
                refine w_imulv (z := 300) rfl (by decide) ?_
                refine w_pushI rfl ?_
                refine w_iaddv (z := 360) rfl (by decide) ?_
                refine w_icmp_ge rfl (fun h => absurd h (by decide)) (fun _ => ?_)
                refine w_aload rfl rfl ?_
                refine w_getR (r := 85) rfl rfl (hR _ fmR_50_60 (by decide)) ?_
                refine w_iload rfl rfl ?_
                refine w_pushL rfl ?_
                refine w_lastv (j := 319) rfl rfl (by decide) (by unfold vp_in; decide) rfl ?_
                refine w_iincv (z := 320) rfl rfl (by decide) rfl ?_
                refine w_goto rfl ?_
                refine w_iload rfl rfl ?_
                refine w_pushI rfl ?_
                refine w_iload rfl rfl ?_
                refine w_topv (z := 5) (by decide) ?_
                refine w_imulv (z := 300) rfl (by decide) ?_
                refine w_pushI rfl ?_
                refine w_iaddv (z := 360) rfl (by decide) ?_
                refine w_icmp_ge rfl (fun h => absurd h (by decide)) (fun _ => ?_)
                refine w_aload rfl rfl ?_
                refine w_getR (r := 85) rfl rfl (hR _ fmR_50_60 (by decide)) ?_
                refine w_iload rfl rfl ?_
                refine w_pushL rfl ?_
                refine w_lastv (j := 320) rfl rfl (by decide) (by unfold vp_in; decide) rfl ?_
                refine w_iincv (z := 321) rfl rfl (by decide) rfl ?_
                refine w_goto rfl ?_
                refine w_iload rfl rfl ?_
                refine w_pushI rfl ?_
                refine w_iload rfl rfl ?_
                refine w_topv (z := 5) (by decide) ?_
                refine w_imulv (z := 300) rfl (by decide) ?_
                refine w_pushI rfl ?_
                refine w_iaddv (z := 360) rfl (by decide) ?_
                refine w_icmp_ge rfl (fun h => absurd h (by decide)) (fun _ => ?_)
                refine w_aload rfl rfl ?_
                refine w_getR (r := 85) rfl rfl (hR _ fmR_50_60 (by decide)) ?_
                refine w_iload rfl rfl ?_
                refine w_pushL rfl ?_
                refine w_lastv (j := 321) rfl rfl (by decide) (by unfold vp_in; decide) rfl ?_
                refine w_iincv (z := 322) rfl rfl (by decide) rfl ?_
                refine w_goto rfl ?_
                refine w_iload rfl rfl ?_
                refine w_pushI rfl ?_
                refine w_iload rfl rfl ?_
                refine w_topv (z := 5) (by decide) ?_
                refine w_imulv (z := 300) rfl (by decide) ?_
                refine w_pushI rfl ?_
                refine w_iaddv (z := 360) rfl (by decide) ?_
                refine w_icmp_ge rfl (fun h => absurd h (by decide)) (fun _ => ?_)
                refine w_aload rfl rfl ?_
                refine w_getR (r := 85) rfl rfl (hR _ fmR_50_60 (by decide)) ?_
                refine w_iload rfl rfl ?_
                refine w_pushL rfl ?_
                refine w_lastv (j := 322) rfl rfl (by decide) (by unfold vp_in; decide) rfl ?_
                refine w_iincv (z := 323) rfl rfl (by decide) rfl ?_
                refine w_goto rfl ?_
                refine w_iload rfl rfl ?_
                refine w_pushI rfl ?_
                refine w_iload rfl rfl ?_
                refine w_topv (z := 5) (by decide) ?_
                refine w_imulv (z := 300) rfl (by decide) ?_
                refine w_pushI rfl ?_
                refine w_iaddv (z := 360) rfl (by decide) ?_
                refine w_icmp_ge rfl (fun h => absurd h (by decide)) (fun _ => ?_)
                refine w_aload rfl rfl ?_
                refine w_getR (r := 85) rfl rfl (hR _ fmR_50_60 (by decide)) ?_
                refine w_iload rfl rfl ?_
                refine w_pushL rfl ?_
                refine w_lastv (j := 323) rfl rfl (by decide) (by unfold vp_in; decide) rfl ?_
                refine w_iincv (z := 324) rfl rfl (by decide) rfl ?_
                refine w_goto rfl ?_
                refine w_iload rfl rfl ?_
                refine w_pushI rfl ?_
                refine w_iload rfl rfl ?_
                refine w_topv (z := 5) (by decide) ?_
                refine w_imulv (z := 300) rfl (by decide) ?_
                refine w_pushI rfl ?_
                refine w_iaddv (z := 360) rfl (by decide) ?_
                refine w_icmp_ge rfl (fun h => absurd h (by decide)) (fun _ => ?_)
                refine w_aload rfl rfl ?_
                refine w_getR (r := 85) rfl rfl (hR _ fmR_50_60 (by decide)) ?_
                refine w_iload rfl rfl ?_
                refine w_pushL rfl ?_
                refine w_lastv (j := 324) rfl rfl (by decide) (by unfold vp_in; decide) rfl ?_
                refine w_iincv (z := 325) rfl rfl (by decide) rfl ?_
                refine w_goto rfl ?_
                refine w_iload rfl rfl ?_
                refine w_pushI rfl ?_
                refine w_iload rfl rfl ?_
                refine w_topv (z := 5) (by decide) ?_
                refine w_imulv (z := 300) rfl (by decide) ?_
                refine w_pushI rfl ?_
                refine w_iaddv (z := 360) rfl (by decide) ?_
                refine w_icmp_ge rfl (fun h => absurd h (by decide)) (fun _ => ?_)
                refine w_aload rfl rfl ?_
                refine w_getR (r := 85) rfl rfl (hR _ fmR_50_60 (by decide)) ?_
                refine w_iload rfl rfl ?_
                refine w_pushL rfl ?_
                refine w_lastv (j := 325) rfl rfl (by decide) (by unfold vp_in; decide) rfl ?_
                refine w_iincv (z := 326) rfl rfl (by decide) rfl ?_
                refine w_goto rfl ?_
                refine w_iload rfl rfl ?_
                refine w_pushI rfl ?_
                refine w_iload rfl rfl ?_
                refine w_topv (z := 5) (by decide) ?_
                refine w_imulv (z := 300) rfl (by decide) ?_
                refine w_pushI rfl ?_
                refine w_iaddv (z := 360) rfl (by decide) ?_
                refine w_icmp_ge rfl (fun h => absurd h (by decide)) (fun _ => ?_)
                refine w_aload rfl rfl ?_
                refine w_getR (r := 85) rfl rfl (hR _ fmR_50_60 (by decide)) ?_
                refine w_iload rfl rfl ?_
                refine w_pushL rfl ?_
                refine w_lastv (j := 326) rfl rfl (by decide) (by unfold vp_in; decide) rfl ?_
                refine w_iincv (z := 327) rfl rfl (by decide) rfl ?_
                refine w_goto rfl ?_
                refine w_iload rfl rfl ?_
                refine w_pushI rfl ?_
                refine w_iload rfl rfl ?_
                refine w_topv (z := 5) (by decide) ?_
                refine w_imulv (z := 300) rfl (by decide) ?_
                refine w_pushI rfl ?_
                refine w_iaddv (z := 360) rfl (by decide) ?_
                refine w_icmp_ge rfl (fun h => absurd h (by decide)) (fun _ => ?_)
                refine w_aload rfl rfl ?_
                refine w_getR (r := 85) rfl rfl (hR _ fmR_50_60 (by decide)) ?_
                refine w_iload rfl rfl ?_
                refine w_pushL rfl ?_
                refine w_lastv (j := 327) rfl rfl (by decide) (by unfold vp_in; decide) rfl ?_
                refine w_iincv (z := 328) rfl rfl (by decide) rfl ?_
                refine w_goto rfl ?_
                refine w_iload rfl rfl ?_
                refine w_pushI rfl ?_
                refine w_iload rfl rfl ?_
                refine w_topv (z := 5) (by decide) ?_
                refine w_imulv (z := 300) rfl (by decide) ?_
                refine w_pushI rfl ?_
                refine w_iaddv (z := 360) rfl (by decide) ?_
                refine w_icmp_ge rfl (fun h => absurd h (by decide)) (fun _ => ?_)
                refine w_aload rfl rfl ?_
                refine w_getR (r := 85) rfl rfl (hR _ fmR_50_60 (by decide)) ?_
                refine w_iload rfl rfl ?_
                refine w_pushL rfl ?_
                refine w_lastv (j := 328) rfl rfl (by decide) (by unfold vp_in; decide) rfl ?_
                refine w_iincv (z := 329) rfl rfl (by decide) rfl ?_
                refine w_goto rfl ?_
                refine w_iload rfl rfl ?_
                refine w_pushI rfl ?_
                refine w_iload rfl rfl ?_
                refine w_topv (z := 5) (by decide) ?_
                refine w_imulv (z := 300) rfl (by decide) ?_
                refine w_pushI rfl ?_
                refine w_iaddv (z := 360) rfl (by decide) ?_
                refine w_icmp_ge rfl (fun h => absurd h (by decide)) (fun _ => ?_)
                refine w_aload rfl rfl ?_
                refine w_getR (r := 85) rfl rfl (hR _ fmR_50_60 (by decide)) ?_
                refine w_iload rfl rfl ?_
                refine w_pushL rfl ?_
                refine w_lastv (j := 329) rfl rfl (by decide) (by unfold vp_in; decide) rfl ?_
                refine w_iincv (z := 330) rfl rfl (by decide) rfl ?_
                refine w_goto rfl ?_
                refine w_iload rfl rfl ?_
                refine w_pushI rfl ?_
                refine w_iload rfl rfl ?_
                refine w_topv (z := 5) (by decide) ?_
                refine w_imulv (z := 300) rfl (by decide) ?_
                refine w_pushI rfl ?_
                refine w_iaddv (z := 360) rfl (by decide) ?_
                refine w_icmp_ge rfl (fun h => absurd h (by decide)) (fun _ => ?_)
                refine w_aload rfl rfl ?_
                refine w_getR (r := 85) rfl rfl (hR _ fmR_50_60 (by decide)) ?_
                refine w_iload rfl rfl ?_
                refine w_pushL rfl ?_
                refine w_lastv (j := 330) rfl rfl (by decide) (by unfold vp_in; decide) rfl ?_
                refine w_iincv (z := 331) rfl rfl (by decide) rfl ?_
                refine w_goto rfl ?_
                refine w_iload rfl rfl ?_
                refine w_pushI rfl ?_
                refine w_iload rfl rfl ?_
                refine w_topv (z := 5) (by decide) ?_
                refine w_imulv (z := 300) rfl (by decide) ?_
                refine w_pushI rfl ?_
                refine w_iaddv (z := 360) rfl (by decide) ?_
                refine w_icmp_ge rfl (fun h => absurd h (by decide)) (fun _ => ?_)
                refine w_aload rfl rfl ?_
                refine w_getR (r := 85) rfl rfl (hR _ fmR_50_60 (by decide)) ?_
                refine w_iload rfl rfl ?_
                refine w_pushL rfl ?_
                refine w_lastv (j := 331) rfl rfl (by decide) (by unfold vp_in; decide) rfl ?_
                refine w_iincv (z := 332) rfl rfl (by decide) rfl ?_
                refine w_goto rfl ?_
                refine w_iload rfl rfl ?_
                refine w_pushI rfl ?_
                refine w_iload rfl rfl ?_
                refine w_topv (z := 5) (by decide) ?_
                refine w_imulv (z := 300) rfl (by decide) ?_
                refine w_pushI rfl ?_
                refine w_iaddv (z := 360) rfl (by decide) ?_
                refine w_icmp_ge rfl (fun h => absurd h (by decide)) (fun _ => ?_)
                refine w_aload rfl rfl ?_
                refine w_getR (r := 85) rfl rfl (hR _ fmR_50_60 (by decide)) ?_
                refine w_iload rfl rfl ?_
                refine w_pushL rfl ?_
                refine w_lastv (j := 332) rfl rfl (by decide) (by unfold vp_in; decide) rfl ?_
                refine w_iincv (z := 333) rfl rfl (by decide) rfl ?_
                refine w_goto rfl ?_
                refine w_iload rfl rfl ?_
                refine w_pushI rfl ?_
                refine w_iload rfl rfl ?_
                refine w_topv (z := 5) (by decide) ?_
                refine w_imulv (z := 300) rfl (by decide) ?_
                refine w_pushI rfl ?_
                refine w_iaddv (z := 360) rfl (by decide) ?_
                refine w_icmp_ge rfl (fun h => absurd h (by decide)) (fun _ => ?_)
                refine w_aload rfl rfl ?_
                refine w_getR (r := 85) rfl rfl (hR _ fmR_50_60 (by decide)) ?_
                refine w_iload rfl rfl ?_
                refine w_pushL rfl ?_
                refine w_lastv (j := 333) rfl rfl (by decide) (by unfold vp_in; decide) rfl ?_
                refine w_iincv (z := 334) rfl rfl (by decide) rfl ?_
                refine w_goto rfl ?_
                refine w_iload rfl rfl ?_
                refine w_pushI rfl ?_
                refine w_iload rfl rfl ?_
                refine w_topv (z := 5) (by decide) ?_
                refine w_imulv (z := 300) rfl (by decide) ?_
                refine w_pushI rfl ?_
                refine w_iaddv (z := 360) rfl (by decide) ?_
                refine w_icmp_ge rfl (fun h => absurd h (by decide)) (fun _ => ?_)
                refine w_aload rfl rfl ?_
                refine w_getR (r := 85) rfl rfl (hR _ fmR_50_60 (by decide)) ?_
                refine w_iload rfl rfl ?_
                refine w_pushL rfl ?_
                refine w_lastv (j := 334) rfl rfl (by decide) (by unfold vp_in; decide) rfl ?_
                refine w_iincv (z := 335) rfl rfl (by decide) rfl ?_
                refine w_goto rfl ?_
                refine w_iload rfl rfl ?_
                refine w_pushI rfl ?_
                refine w_iload rfl rfl ?_
                refine w_topv (z := 5) (by decide) ?_
                refine w_imulv (z := 300) rfl (by decide) ?_
                refine w_pushI rfl ?_
                refine w_iaddv (z := 360) rfl (by decide) ?_
                refine w_icmp_ge rfl (fun h => absurd h (by decide)) (fun _ => ?_)
                refine w_aload rfl rfl ?_
                refine w_getR (r := 85) rfl rfl (hR _ fmR_50_60 (by decide)) ?_
                refine w_iload rfl rfl ?_
                refine w_pushL rfl ?_
                refine w_lastv (j := 335) rfl rfl (by decide) (by unfold vp_in; decide) rfl ?_
                refine w_iincv (z := 336) rfl rfl (by decide) rfl ?_
                refine w_goto rfl ?_
                refine w_iload rfl rfl ?_
                refine w_pushI rfl ?_
                refine w_iload rfl rfl ?_
                refine w_topv (z := 5) (by decide) ?_
                refine w_imulv (z := 300) rfl (by decide) ?_
                refine w_pushI rfl ?_
                refine w_iaddv (z := 360) rfl (by decide) ?_
                refine w_icmp_ge rfl (fun h => absurd h (by decide)) (fun _ => ?_)
                refine w_aload rfl rfl ?_
                refine w_getR (r := 85) rfl rfl (hR _ fmR_50_60 (by decide)) ?_
                refine w_iload rfl rfl ?_
                refine w_pushL rfl ?_
                refine w_lastv (j := 336) rfl rfl (by decide) (by unfold vp_in; decide) rfl ?_
                refine w_iincv (z := 337) rfl rfl (by decide) rfl ?_
                refine w_goto rfl ?_
                refine w_iload rfl rfl ?_
                refine w_pushI rfl ?_
                refine w_iload rfl rfl ?_
                refine w_topv (z := 5) (by decide) ?_
                refine w_imulv (z := 300) rfl (by decide) ?_
                refine w_pushI rfl ?_
                refine w_iaddv (z := 360) rfl (by decide) ?_
                refine w_icmp_ge rfl (fun h => absurd h (by decide)) (fun _ => ?_)
                refine w_aload rfl rfl ?_
                refine w_getR (r := 85) rfl rfl (hR _ fmR_50_60 (by decide)) ?_
                refine w_iload rfl rfl ?_
                refine w_pushL rfl ?_
                refine w_lastv (j := 337) rfl rfl (by decide) (by unfold vp_in; decide) rfl ?_
                refine w_iincv (z := 338) rfl rfl (by decide) rfl ?_
                refine w_goto rfl ?_
                refine w_iload rfl rfl ?_
                refine w_pushI rfl ?_
                refine w_iload rfl rfl ?_
                refine w_topv (z := 5) (by decide) ?_
                refine w_imulv (z := 300) rfl (by decide) ?_
                refine w_pushI rfl ?_
                refine w_iaddv (z := 360) rfl (by decide) ?_
                refine w_icmp_ge rfl (fun h => absurd h (by decide)) (fun _ => ?_)
                refine w_aload rfl rfl ?_
                refine w_getR (r := 85) rfl rfl (hR _ fmR_50_60 (by decide)) ?_
                refine w_iload rfl rfl ?_
                refine w_pushL rfl ?_
                refine w_lastv (j := 338) rfl rfl (by decide) (by unfold vp_in; decide) rfl ?_
                refine w_iincv (z := 339) rfl rfl (by decide) rfl ?_
                refine w_goto rfl ?_
                refine w_iload rfl rfl ?_
                refine w_pushI rfl ?_
                refine w_iload rfl rfl ?_
                refine w_topv (z := 5) (by decide) ?_
                refine w_imulv (z := 300) rfl (by decide) ?_
                refine w_pushI rfl ?_
                refine w_iaddv (z := 360) rfl (by decide) ?_
                refine w_icmp_ge rfl (fun h => absurd h (by decide)) (fun _ => ?_)
                refine w_aload rfl rfl ?_
                refine w_getR (r := 85) rfl rfl (hR _ fmR_50_60 (by decide)) ?_
                refine w_iload rfl rfl ?_
                refine w_pushL rfl ?_
                refine w_lastv (j := 339) rfl rfl (by decide) (by unfold vp_in; decide) rfl ?_
                refine w_iincv (z := 340) rfl rfl (by decide) rfl ?_
                refine w_goto rfl ?_
                refine w_iload rfl rfl ?_
                refine w_pushI rfl ?_
                refine w_iload rfl rfl ?_
                refine w_topv (z := 5) (by decide) ?_
                refine w_imulv (z := 300) rfl (by decide) ?_
                refine w_pushI rfl ?_
                refine w_iaddv (z := 360) rfl (by decide) ?_
                refine w_icmp_ge rfl (fun h => absurd h (by decide)) (fun _ => ?_)
                refine w_aload rfl rfl ?_
                refine w_getR (r := 85) rfl rfl (hR _ fmR_50_60 (by decide)) ?_
                refine w_iload rfl rfl ?_
                refine w_pushL rfl ?_
                refine w_lastv (j := 340) rfl rfl (by decide) (by unfold vp_in; decide) rfl ?_
                refine w_iincv (z := 341) rfl rfl (by decide) rfl ?_
                refine w_goto rfl ?_
                refine w_iload rfl rfl ?_
                refine w_pushI rfl ?_
                refine w_iload rfl rfl ?_
                refine w_topv (z := 5) (by decide) ?_
                refine w_imulv (z := 300) rfl (by decide) ?_
                refine w_pushI rfl ?_
                refine w_iaddv (z := 360) rfl (by decide) ?_
                refine w_icmp_ge rfl (fun h => absurd h (by decide)) (fun _ => ?_)
                refine w_aload rfl rfl ?_
                refine w_getR (r := 85) rfl rfl (hR _ fmR_50_60 (by decide)) ?_
                refine w_iload rfl rfl ?_
                refine w_pushL rfl ?_
                refine w_lastv (j := 341) rfl rfl (by decide) (by unfold vp_in; decide) rfl ?_
                refine w_iincv (z := 342) rfl rfl (by decide) rfl ?_
                refine w_goto rfl ?_
                refine w_iload rfl rfl ?_
                refine w_pushI rfl ?_
                refine w_iload rfl rfl ?_
                refine w_topv (z := 5) (by decide) ?_
                refine w_imulv (z := 300) rfl (by decide) ?_
                refine w_pushI rfl ?_
                refine w_iaddv (z := 360) rfl (by decide) ?_
                refine w_icmp_ge rfl (fun h => absurd h (by decide)) (fun _ => ?_)
                refine w_aload rfl rfl ?_
                refine w_getR (r := 85) rfl rfl (hR _ fmR_50_60 (by decide)) ?_
                refine w_iload rfl rfl ?_
                refine w_pushL rfl ?_
                refine w_lastv (j := 342) rfl rfl (by decide) (by unfold vp_in; decide) rfl ?_
                refine w_iincv (z := 343) rfl rfl (by decide) rfl ?_
                refine w_goto rfl ?_
                refine w_iload rfl rfl ?_
                refine w_pushI rfl ?_
                refine w_iload rfl rfl ?_
                refine w_topv (z := 5) (by decide) ?_
                refine w_imulv (z := 300) rfl (by decide) ?_
                refine w_pushI rfl ?_
                refine w_iaddv (z := 360) rfl (by decide) ?_
                refine w_icmp_ge rfl (fun h => absurd h (by decide)) (fun _ => ?_)
                refine w_aload rfl rfl ?_
                refine w_getR (r := 85) rfl rfl (hR _ fmR_50_60 (by decide)) ?_
                refine w_iload rfl rfl ?_
                refine w_pushL rfl ?_
                refine w_lastv (j := 343) rfl rfl (by decide) (by unfold vp_in; decide) rfl ?_
                refine w_iincv (z := 344) rfl rfl (by decide) rfl ?_
                refine w_goto rfl ?_
                refine w_iload rfl rfl ?_
                refine w_pushI rfl ?_
                refine w_iload rfl rfl ?_
                refine w_topv (z := 5) (by decide) ?_
                refine w_imulv (z := 300) rfl (by decide) ?_
                refine w_pushI rfl ?_
                refine w_iaddv (z := 360) rfl (by decide) ?_
                refine w_icmp_ge rfl (fun h => absurd h (by decide)) (fun _ => ?_)
                refine w_aload rfl rfl ?_
                refine w_getR (r := 85) rfl rfl (hR _ fmR_50_60 (by decide)) ?_
                refine w_iload rfl rfl ?_
                refine w_pushL rfl ?_
                refine w_lastv (j := 344) rfl rfl (by decide) (by unfold vp_in; decide) rfl ?_
                refine w_iincv (z := 345) rfl rfl (by decide) rfl ?_
                refine w_goto rfl ?_
                refine w_iload rfl rfl ?_
                refine w_pushI rfl ?_
                refine w_iload rfl rfl ?_
                refine w_topv (z := 5) (by decide) ?_
                refine w_imulv (z := 300) rfl (by decide) ?_
                refine w_pushI rfl ?_
                refine w_iaddv (z := 360) rfl (by decide) ?_
                refine w_icmp_ge rfl (fun h => absurd h (by decide)) (fun _ => ?_)
                refine w_aload rfl rfl ?_
                refine w_getR (r := 85) rfl rfl (hR _ fmR_50_60 (by decide)) ?_
                refine w_iload rfl rfl ?_
                refine w_pushL rfl ?_
                refine w_lastv (j := 345) rfl rfl (by decide) (by unfold vp_in; decide) rfl ?_
                refine w_iincv (z := 346) rfl rfl (by decide) rfl ?_
                refine w_goto rfl ?_
                refine w_iload rfl rfl ?_
                refine w_pushI rfl ?_
                refine w_iload rfl rfl ?_
                refine w_topv (z := 5) (by decide) ?_
                refine w_imulv (z := 300) rfl (by decide) ?_
                refine w_pushI rfl ?_
                refine w_iaddv (z := 360) rfl (by decide) ?_
                refine w_icmp_ge rfl (fun h => absurd h (by decide)) (fun _ => ?_)
                refine w_aload rfl rfl ?_
                refine w_getR (r := 85) rfl rfl (hR _ fmR_50_60 (by decide)) ?_
                refine w_iload rfl rfl ?_
                refine w_pushL rfl ?_
                refine w_lastv (j := 346) rfl rfl (by decide) (by unfold vp_in; decide) rfl ?_
                refine w_iincv (z := 347) rfl rfl (by decide) rfl ?_
                refine w_goto rfl ?_
                refine w_iload rfl rfl ?_
                refine w_pushI rfl ?_
                refine w_iload rfl rfl ?_
                refine w_topv (z := 5) (by decide) ?_
                refine w_imulv (z := 300) rfl (by decide) ?_
                refine w_pushI rfl ?_
                refine w_iaddv (z := 360) rfl (by decide) ?_
                refine w_icmp_ge rfl (fun h => absurd h (by decide)) (fun _ => ?_)
                refine w_aload rfl rfl ?_
                refine w_getR (r := 85) rfl rfl (hR _ fmR_50_60 (by decide)) ?_
                refine w_iload rfl rfl ?_
                refine w_pushL rfl ?_
                refine w_lastv (j := 347) rfl rfl (by decide) (by unfold vp_in; decide) rfl ?_
                refine w_iincv (z := 348) rfl rfl (by decide) rfl ?_
                refine w_goto rfl ?_
                refine w_iload rfl rfl ?_
                refine w_pushI rfl ?_
                refine w_iload rfl rfl ?_
                refine w_topv (z := 5) (by decide) ?_
                refine w_imulv (z := 300) rfl (by decide) ?_
                refine w_pushI rfl ?_
                refine w_iaddv (z := 360) rfl (by decide) ?_
                refine w_icmp_ge rfl (fun h => absurd h (by decide)) (fun _ => ?_)
                refine w_aload rfl rfl ?_
                refine w_getR (r := 85) rfl rfl (hR _ fmR_50_60 (by decide)) ?_
                refine w_iload rfl rfl ?_
                refine w_pushL rfl ?_
                refine w_lastv (j := 348) rfl rfl (by decide) (by unfold vp_in; decide) rfl ?_
                refine w_iincv (z := 349) rfl rfl (by decide) rfl ?_
                refine w_goto rfl ?_
                refine w_iload rfl rfl ?_
                refine w_pushI rfl ?_
                refine w_iload rfl rfl ?_
                refine w_topv (z := 5) (by decide) ?_
                refine w_imulv (z := 300) rfl (by decide) ?_
                refine w_pushI rfl ?_
                refine w_iaddv (z := 360) rfl (by decide) ?_
                refine w_icmp_ge rfl (fun h => absurd h (by decide)) (fun _ => ?_)
                refine w_aload rfl rfl ?_
                refine w_getR (r := 85) rfl rfl (hR _ fmR_50_60 (by decide)) ?_
                refine w_iload rfl rfl ?_
                refine w_pushL rfl ?_
                refine w_lastv (j := 349) rfl rfl (by decide) (by unfold vp_in; decide) rfl ?_
                refine w_iincv (z := 350) rfl rfl (by decide) rfl ?_
                refine w_goto rfl ?_
                refine w_iload rfl rfl ?_
                refine w_pushI rfl ?_
                refine w_iload rfl rfl ?_
                refine w_topv (z := 5) (by decide) ?_
                refine w_imulv (z := 300) rfl (by decide) ?_
                refine w_pushI rfl ?_
                refine w_iaddv (z := 360) rfl (by decide) ?_
                refine w_icmp_ge rfl (fun h => absurd h (by decide)) (fun _ => ?_)
                refine w_aload rfl rfl ?_
                refine w_getR (r := 85) rfl rfl (hR _ fmR_50_60 (by decide)) ?_
                refine w_iload rfl rfl ?_
                refine w_pushL rfl ?_
                refine w_lastv (j := 350) rfl rfl (by decide) (by unfold vp_in; decide) rfl ?_
                refine w_iincv (z := 351) rfl rfl (by decide) rfl ?_
                refine w_goto rfl ?_
                refine w_iload rfl rfl ?_
                refine w_pushI rfl ?_
                refine w_iload rfl rfl ?_
                refine w_topv (z := 5) (by decide) ?_
                refine w_imulv (z := 300) rfl (by decide) ?_
                refine w_pushI rfl ?_
                refine w_iaddv (z := 360) rfl (by decide) ?_
                refine w_icmp_ge rfl (fun h => absurd h (by decide)) (fun _ => ?_)
                refine w_aload rfl rfl ?_
                refine w_getR (r := 85) rfl rfl (hR _ fmR_50_60 (by decide)) ?_
                refine w_iload rfl rfl ?_
                refine w_pushL rfl ?_
                refine w_lastv (j := 351) rfl rfl (by decide) (by unfold vp_in; decide) rfl ?_
                refine w_iincv (z := 352) rfl rfl (by decide) rfl ?_
                refine w_goto rfl ?_
                refine w_iload rfl rfl ?_
                refine w_pushI rfl ?_
                refine w_iload rfl rfl ?_
                refine w_topv (z := 5) (by decide) ?_
                refine w_imulv (z := 300) rfl (by decide) ?_
                refine w_pushI rfl ?_
                refine w_iaddv (z := 360) rfl (by decide) ?_
                refine w_icmp_ge rfl (fun h => absurd h (by decide)) (fun _ => ?_)
                refine w_aload rfl rfl ?_
                refine w_getR (r := 85) rfl rfl (hR _ fmR_50_60 (by decide)) ?_
                refine w_iload rfl rfl ?_
                refine w_pushL rfl ?_
                refine w_lastv (j := 352) rfl rfl (by decide) (by unfold vp_in; decide) rfl ?_
                refine w_iincv (z := 353) rfl rfl (by decide) rfl ?_
                refine w_goto rfl ?_
                refine w_iload rfl rfl ?_
                refine w_pushI rfl ?_
                refine w_iload rfl rfl ?_
                refine w_topv (z := 5) (by decide) ?_
                refine w_imulv (z := 300) rfl (by decide) ?_
                refine w_pushI rfl ?_
                refine w_iaddv (z := 360) rfl (by decide) ?_
                refine w_icmp_ge rfl (fun h => absurd h (by decide)) (fun _ => ?_)
                refine w_aload rfl rfl ?_
                refine w_getR (r := 85) rfl rfl (hR _ fmR_50_60 (by decide)) ?_
                refine w_iload rfl rfl ?_
                refine w_pushL rfl ?_
                refine w_lastv (j := 353) rfl rfl (by decide) (by unfold vp_in; decide) rfl ?_
                refine w_iincv (z := 354) rfl rfl (by decide) rfl ?_
                refine w_goto rfl ?_
                refine w_iload rfl rfl ?_
                refine w_pushI rfl ?_
                refine w_iload rfl rfl ?_
                refine w_topv (z := 5) (by decide) ?_
                refine w_imulv (z := 300) rfl (by decide) ?_
                refine w_pushI rfl ?_
                refine w_iaddv (z := 360) rfl (by decide) ?_
                refine w_icmp_ge rfl (fun h => absurd h (by decide)) (fun _ => ?_)
                refine w_aload rfl rfl ?_
                refine w_getR (r := 85) rfl rfl (hR _ fmR_50_60 (by decide)) ?_
                refine w_iload rfl rfl ?_
                refine w_pushL rfl ?_
                refine w_lastv (j := 354) rfl rfl (by decide) (by unfold vp_in; decide) rfl ?_
                refine w_iincv (z := 355) rfl rfl (by decide) rfl ?_
                refine w_goto rfl ?_
                refine w_iload rfl rfl ?_
                refine w_pushI rfl ?_
                refine w_iload rfl rfl ?_
                refine w_topv (z := 5) (by decide) ?_
                refine w_imulv (z := 300) rfl (by decide) ?_
                refine w_pushI rfl ?_
                refine w_iaddv (z := 360) rfl (by decide) ?_
                refine w_icmp_ge rfl (fun h => absurd h (by decide)) (fun _ => ?_)
                refine w_aload rfl rfl ?_
                refine w_getR (r := 85) rfl rfl (hR _ fmR_50_60 (by decide)) ?_
                refine w_iload rfl rfl ?_
                refine w_pushL rfl ?_
                refine w_lastv (j := 355) rfl rfl (by decide) (by unfold vp_in; decide) rfl ?_
                refine w_iincv (z := 356) rfl rfl (by decide) rfl ?_
                refine w_goto rfl ?_
                refine w_iload rfl rfl ?_
                refine w_pushI rfl ?_
                refine w_iload rfl rfl ?_
                refine w_topv (z := 5) (by decide) ?_
                refine w_imulv (z := 300) rfl (by decide) ?_
                refine w_pushI rfl ?_
                refine w_iaddv (z := 360) rfl (by decide) ?_
                refine w_icmp_ge rfl (fun h => absurd h (by decide)) (fun _ => ?_)
                refine w_aload rfl rfl ?_
                refine w_getR (r := 85) rfl rfl (hR _ fmR_50_60 (by decide)) ?_
                refine w_iload rfl rfl ?_
                refine w_pushL rfl ?_
                refine w_lastv (j := 356) rfl rfl (by decide) (by unfold vp_in; decide) rfl ?_
                refine w_iincv (z := 357) rfl rfl (by decide) rfl ?_
                refine w_goto rfl ?_
                refine w_iload rfl rfl ?_
                refine w_pushI rfl ?_
                refine w_iload rfl rfl ?_
                refine w_topv (z := 5) (by decide) ?_
                refine w_imulv (z := 300) rfl (by decide) ?_
                refine w_pushI rfl ?_
                refine w_iaddv (z := 360) rfl (by decide) ?_
                refine w_icmp_ge rfl (fun h => absurd h (by decide)) (fun _ => ?_)
                refine w_aload rfl rfl ?_
                refine w_getR (r := 85) rfl rfl (hR _ fmR_50_60 (by decide)) ?_
                refine w_iload rfl rfl ?_
                refine w_pushL rfl ?_
                refine w_lastv (j := 357) rfl rfl (by decide) (by unfold vp_in; decide) rfl ?_
                refine w_iincv (z := 358) rfl rfl (by decide) rfl ?_
                refine w_goto rfl ?_
                refine w_iload rfl rfl ?_
                refine w_pushI rfl ?_
                refine w_iload rfl rfl ?_
                refine w_topv (z := 5) (by decide) ?_
                refine w_imulv (z := 300) rfl (by decide) ?_
                refine w_pushI rfl ?_
                refine w_iaddv (z := 360) rfl (by decide) ?_
                refine w_icmp_ge rfl (fun h => absurd h (by decide)) (fun _ => ?_)
                refine w_aload rfl rfl ?_
                refine w_getR (r := 85) rfl rfl (hR _ fmR_50_60 (by decide)) ?_
                refine w_iload rfl rfl ?_
                refine w_pushL rfl ?_
                refine w_lastv (j := 358) rfl rfl (by decide) (by unfold vp_in; decide) rfl ?_
                refine w_iincv (z := 359) rfl rfl (by decide) rfl ?_
                refine w_goto rfl ?_
                refine w_iload rfl rfl ?_
                refine w_pushI rfl ?_
                refine w_iload rfl rfl ?_
                refine w_topv (z := 5) (by decide) ?_
                refine w_imulv (z := 300) rfl (by decide) ?_
                refine w_pushI rfl ?_
                refine w_iaddv (z := 360) rfl (by decide) ?_
                refine w_icmp_ge rfl (fun h => absurd h (by decide)) (fun _ => ?_)
                refine w_aload rfl rfl ?_
                refine w_getR (r := 85) rfl rfl (hR _ fmR_50_60 (by decide)) ?_
                refine w_iload rfl rfl ?_
                refine w_pushL rfl ?_
                refine w_lastv (j := 359) rfl rfl (by decide) (by unfold vp_in; decide) rfl ?_
                refine w_iincv (z := 360) rfl rfl (by decide) rfl ?_
                refine w_goto rfl ?_
                refine w_iload rfl rfl ?_
                refine w_pushI rfl ?_
                refine w_iload rfl rfl ?_
                refine w_topv (z := 5) (by decide) ?_
                refine w_imulv (z := 300) rfl (by decide) ?_
                refine w_pushI rfl ?_
                refine w_iaddv (z := 360) rfl (by decide) ?_
                refine w_icmp_ge rfl (fun _ => ?_) (fun h => absurd (by decide) h)
                refine w_pushI rfl ?_
                refine w_iret rfl (Or.inl rfl) ?_
                exact congrArg (fun v => some (Value.int v)) (show (1 : Int32) = f1_row (5) b c by have e0 : (5 : Int32).toInt = 5 := rfl; exact ite_eq_of (fun _ => ite_eq_of (fun hc => absurd hc (by omega)) (fun _ => rfl)) (fun hc => absurd (by omega) hc))
            · refine w_pushI rfl ?_
              refine w_iret rfl (Or.inl rfl) ?_
              exact congrArg (fun v => some (Value.int v)) (show ((-14) : Int32) = f1_row a b c by exact ite_eq_of (fun _ => ite_eq_of (fun _ => rfl) (fun hc => absurd (by omega) hc)) (fun hc => absurd (by omega) hc))
          · refine w_pushI rfl ?_
            refine w_iret rfl (Or.inl rfl) ?_
            exact congrArg (fun v => some (Value.int v)) (show ((-1) : Int32) = f1_row a b c by exact ite_eq_of (fun hc => absurd hc (by omega)) (fun _ => rfl))
