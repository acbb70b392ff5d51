set_option maxHeartbeats 40000000 in
set_option maxRecDepth 100000 in
theorem a2_of {X : Nat × (Nat → Int32)} {d : Nat} {I : Nat → Nat → Int32} {L : Nat → Nat → Int64} {R : Nat → Nat → Option Nat} (hI : ∀ q ∈ gFlI, 50 ≤ q.1 → I q.1 q.2.1 = q.2.2) (hL : ∀ q ∈ gFlL, 50 ≤ q.1 → L q.1 q.2.1 = q.2.2) (hR : ∀ q ∈ gFlR, 50 ≤ q.1 → R q.1 q.2.1 = some q.2.2) (a : Int32) (b : Int32) : gW X (d + 12) 163 0 0 0 (gEn 163 [.ref 50, .int a, .int b]) [] (gK 87, I, L, R) (fun r _ => r = some (.int (f1_of a b))) := by
  show gW _ _ _ _ _ _ [some (.ref 50), some (.int a), some (.int b)] _ _ _
  refine w_iload rfl rfl ?_
  refine w_pushI rfl ?_
  refine w_pushI rfl ?_
  refine w_callSi (As := [_, _, _]) (le := [some _, some _, some _]) rfl rfl (Nat.le_of_ble_eq_true rfl) (Nat.le_of_ble_eq_true rfl) rfl ?_
  refine w_iload rfl rfl ?_
  refine w_iload rfl rfl ?_
  refine w_icmp_ltZ (b := 14) rfl rfl (by decide) (fun h1 => ?_) (fun h1 => ?_)
  · refine w_pushI rfl ?_
    refine w_iret rfl (Or.inr ⟨rfl, by decide⟩) ?_
    show gW _ _ _ _ _ _ _ _ _ _
    refine w_if_eq rfl (fun _ => ?_) (fun h => absurd (by decide) h)
    refine w_aload rfl rfl ?_
    refine w_iload rfl rfl ?_
    refine w_iload rfl rfl ?_
    refine w_callVi (As := [_, _]) (le := [some _, some _, some _]) rfl rfl rfl (Nat.le_of_ble_eq_true rfl) (Nat.le_of_ble_eq_true rfl) rfl ?_
    refine w_iload rfl rfl ?_
    refine w_pushI rfl ?_
    refine w_pushI rfl ?_
    refine w_callSi (As := [_, _, _]) (le := [some _, some _, some _]) rfl rfl (Nat.le_of_ble_eq_true rfl) (Nat.le_of_ble_eq_true rfl) rfl ?_
    refine w_iload rfl rfl ?_
    refine w_iload rfl rfl ?_
    refine w_icmp_ltZ (b := 0) rfl rfl (by decide) (fun h2 => ?_) (fun h2 => ?_)
    · refine w_pushI rfl ?_
      refine w_iret rfl (Or.inr ⟨rfl, by decide⟩) ?_
      show gW _ _ _ _ _ _ _ _ _ _
      refine w_if_eq rfl (fun _ => ?_) (fun h => absurd (by decide) h)
      refine w_iload rfl rfl ?_
      refine w_pushI rfl ?_
      refine w_pushI rfl ?_
      refine w_callSi (As := [_, _, _]) (le := [some _, some _, some _]) rfl rfl (Nat.le_of_ble_eq_true rfl) (Nat.le_of_ble_eq_true rfl) rfl ?_
      refine w_iload rfl rfl ?_
      refine w_iload rfl rfl ?_
      refine w_icmp_ltZ (b := 5) rfl rfl (by decide) (fun h3 => ?_) (fun h3 => by exfalso; omega)
      refine w_pushI rfl ?_
      refine w_iret rfl (Or.inr ⟨rfl, by decide⟩) ?_
      show gW _ _ _ _ _ _ _ _ _ _
      refine w_if_eq rfl (fun _ => ?_) (fun h => absurd (by decide) h)
      refine w_pushI rfl ?_
      refine w_iret rfl (Or.inr ⟨rfl, by decide⟩) ?_
      show gW _ _ _ _ _ _ _ _ _ _
      refine w_if_eq rfl (fun _ => ?_) (fun h => absurd (by decide) h)
      refine w_pushI rfl ?_
      refine w_iret rfl (Or.inl rfl) ?_
      exact congrArg (fun v => some (Value.int v)) (show ((-1) : Int32) = f1_of a b by exact ite_eq_of (fun hc => ite_eq_of (fun hc => absurd hc (by omega)) (fun _ => ite_eq_of (fun hc => absurd hc (by omega)) (fun _ => ite_eq_of (fun hc => absurd hc (by omega)) (fun _ => ite_eq_of (fun hc => absurd hc (by omega)) (fun _ => ite_eq_of (fun hc => absurd hc (by omega)) (fun _ => ite_eq_of (fun hc => absurd hc (by omega)) (fun _ => ite_eq_of (fun hc => absurd hc (by omega)) (fun _ => ite_eq_of (fun hc => absurd hc (by omega)) (fun _ => ite_eq_of (fun hc => absurd hc (by omega)) (fun _ => rfl)))))))))) (fun hc => rfl))
    · refine w_iload rfl rfl ?_
      refine w_iload rfl rfl ?_
      refine w_icmp_gtZ (b := 4) rfl rfl (by decide) (fun h3 => ?_) (fun h3 => ?_)
      · refine w_pushI rfl ?_
        refine w_iret rfl (Or.inr ⟨rfl, by decide⟩) ?_
        show gW _ _ _ _ _ _ _ _ _ _
        refine w_if_eq rfl (fun _ => ?_) (fun h => absurd (by decide) h)
        refine w_iload rfl rfl ?_
        refine w_pushI rfl ?_
        refine w_pushI rfl ?_
        refine w_callSi (As := [_, _, _]) (le := [some _, some _, some _]) rfl rfl (Nat.le_of_ble_eq_true rfl) (Nat.le_of_ble_eq_true rfl) rfl ?_
        refine w_iload rfl rfl ?_
        refine w_iload rfl rfl ?_
        refine w_icmp_ltZ (b := 5) rfl rfl (by decide) (fun h4 => by exfalso; omega) (fun h4 => ?_)
        refine w_iload rfl rfl ?_
        refine w_iload rfl rfl ?_
        refine w_icmp_gtZ (b := 13) rfl rfl (by decide) (fun h5 => by exfalso; omega) (fun h5 => ?_)
        refine w_pushI rfl ?_
        refine w_goto rfl ?_
        refine w_iret rfl (Or.inr ⟨rfl, by decide⟩) ?_
        show gW _ _ _ _ _ _ _ _ _ _
        refine w_if_eq rfl (fun h => absurd h (by decide)) (fun _ => ?_)
        refine w_iload rfl rfl ?_
        refine w_if_neZ rfl rfl (fun h6 => ?_) (fun h6 => ?_)
        · refine w_pushI rfl ?_
          refine w_iret rfl (Or.inr ⟨rfl, by decide⟩) ?_
          show gW _ _ _ _ _ _ _ _ _ _
          refine w_if_eq rfl (fun _ => ?_) (fun h => absurd (by decide) h)
          refine w_pushI rfl ?_
          refine w_iret rfl (Or.inl rfl) ?_
          exact congrArg (fun v => some (Value.int v)) (show ((-1) : Int32) = f1_of a b by exact ite_eq_of (fun hc => ite_eq_of (fun hc => (by exfalso; omega)) (fun hc => ite_eq_of (fun hc => (by exfalso; omega)) (fun hc => ite_eq_of (fun hc => (by exfalso; omega)) (fun hc => ite_eq_of (fun hc => (by exfalso; omega)) (fun hc => ite_eq_of (fun hc => (by exfalso; omega)) (fun hc => ite_eq_of (fun hc => (by exfalso; omega)) (fun hc => ite_eq_of (fun hc => (by exfalso; omega)) (fun hc => ite_eq_of (fun hc => (by exfalso; omega)) (fun hc => ite_eq_of (fun hc => (by exfalso; omega)) (fun hc => rfl)))))))))) (fun hc => rfl))
        · obtain rfl : a = 0 := i_is (show a.toInt = 0 by omega) (by decide)
          refine w_pushI rfl ?_
          refine w_goto rfl ?_
          refine w_iret rfl (Or.inr ⟨rfl, by decide⟩) ?_
          show gW _ _ _ _ _ _ _ _ _ _
          refine w_if_eq rfl (fun h => absurd h (by decide)) (fun _ => ?_)
          refine w_aload rfl rfl ?_
          refine w_iload rfl rfl ?_
          refine w_iload rfl rfl ?_
          refine w_topv (z := 0) (by decide) ?_
          refine w_callVi (As := [_, _]) (le := [some _, some _, some _]) rfl rfl rfl (Nat.le_of_ble_eq_true rfl) (Nat.le_of_ble_eq_true rfl) rfl ?_
          refine w_iload rfl rfl ?_
          rcases (show b.toInt = 5 ∨ b.toInt = 6 ∨ b.toInt = 7 ∨ b.toInt = 8 ∨ b.toInt = 9 ∨ b.toInt = 10 ∨ b.toInt = 11 ∨ b.toInt = 12 ∨ b.toInt = 13 by omega) with hs8 | hs8 | hs8 | hs8 | hs8 | hs8 | hs8 | hs8 | hs8
          · obtain rfl : b = 5 := i_is hs8 (by decide)
            refine w_swO (x := 5) rfl (show ∀ q ∈ [((0 : Int32), 36), ((1 : Int32), 43), ((2 : Int32), 50), ((3 : Int32), 57), ((4 : Int32), 64)], ¬ (5 : Int32) = q.1 by decide) ?_
            refine w_aload rfl rfl ?_
            refine w_getR (r := 56) rfl rfl (hR _ fmR_50_7 (by decide)) ?_
            refine w_iload rfl rfl ?_
            refine w_topv (z := 5) (by decide) ?_
            refine w_pushI rfl ?_
            refine w_isubv (z := 0) rfl (by decide) ?_
            refine w_ialdv (j := 0) (x := 0) rfl rfl (by decide) (by unfold vp_in; decide) (hI _ fmI_56_0 (by decide)) ?_
            refine w_iret rfl (Or.inl rfl) ?_
            show gW _ _ _ _ _ _ _ _ _ _
            refine w_goto rfl ?_
            refine w_iret rfl (Or.inl rfl) ?_
            exact congrArg (fun v => some (Value.int v)) (show (0 : Int32) = f1_of (0) (5) by have e0 : (0 : Int32).toInt = 0 := rfl; have e1 : (5 : Int32).toInt = 5 := rfl; exact ite_eq_of (fun _ => ite_eq_of (fun _ => rfl) (fun hc => absurd (by omega) hc)) (fun hc => absurd (by omega) hc))
          · obtain rfl : b = 6 := i_is hs8 (by decide)
            refine w_swO (x := 6) rfl (show ∀ q ∈ [((0 : Int32), 36), ((1 : Int32), 43), ((2 : Int32), 50), ((3 : Int32), 57), ((4 : Int32), 64)], ¬ (6 : Int32) = q.1 by decide) ?_
            refine w_aload rfl rfl ?_
            refine w_getR (r := 56) rfl rfl (hR _ fmR_50_7 (by decide)) ?_
            refine w_iload rfl rfl ?_
            refine w_topv (z := 6) (by decide) ?_
            refine w_pushI rfl ?_
            refine w_isubv (z := 1) rfl (by decide) ?_
            refine w_ialdv (j := 1) (x := 180) rfl rfl (by decide) (by unfold vp_in; decide) (hI _ fmI_56_1 (by decide)) ?_
            refine w_iret rfl (Or.inl rfl) ?_
            show gW _ _ _ _ _ _ _ _ _ _
            refine w_goto rfl ?_
            refine w_iret rfl (Or.inl rfl) ?_
            exact congrArg (fun v => some (Value.int v)) (show (180 : Int32) = f1_of (0) (6) by have e0 : (0 : Int32).toInt = 0 := rfl; have e1 : (6 : Int32).toInt = 6 := rfl; exact ite_eq_of (fun _ => ite_eq_of (fun hc => absurd hc (by omega)) (fun _ => ite_eq_of (fun _ => rfl) (fun hc => absurd (by omega) hc))) (fun hc => absurd (by omega) hc))
          · obtain rfl : b = 7 := i_is hs8 (by decide)
            refine w_swO (x := 7) rfl (show ∀ q ∈ [((0 : Int32), 36), ((1 : Int32), 43), ((2 : Int32), 50), ((3 : Int32), 57), ((4 : Int32), 64)], ¬ (7 : Int32) = q.1 by decide) ?_
            refine w_aload rfl rfl ?_
            refine w_getR (r := 56) rfl rfl (hR _ fmR_50_7 (by decide)) ?_
            refine w_iload rfl rfl ?_
            refine w_topv (z := 7) (by decide) ?_
            refine w_pushI rfl ?_
            refine w_isubv (z := 2) rfl (by decide) ?_
            refine w_ialdv (j := 2) (x := 20) rfl rfl (by decide) (by unfold vp_in; decide) (hI _ fmI_56_2 (by decide)) ?_
            refine w_iret rfl (Or.inl rfl) ?_
            show gW _ _ _ _ _ _ _ _ _ _
            refine w_goto rfl ?_
            refine w_iret rfl (Or.inl rfl) ?_
            exact congrArg (fun v => some (Value.int v)) (show (20 : Int32) = f1_of (0) (7) by have e0 : (0 : Int32).toInt = 0 := rfl; have e1 : (7 : Int32).toInt = 7 := rfl; exact ite_eq_of (fun _ => ite_eq_of (fun hc => absurd hc (by omega)) (fun _ => ite_eq_of (fun hc => absurd hc (by omega)) (fun _ => ite_eq_of (fun _ => rfl) (fun hc => absurd (by omega) hc)))) (fun hc => absurd (by omega) hc))
          · obtain rfl : b = 8 := i_is hs8 (by decide)
            refine w_swO (x := 8) rfl (show ∀ q ∈ [((0 : Int32), 36), ((1 : Int32), 43), ((2 : Int32), 50), ((3 : Int32), 57), ((4 : Int32), 64)], ¬ (8 : Int32) = q.1 by decide) ?_
            refine w_aload rfl rfl ?_
            refine w_getR (r := 56) rfl rfl (hR _ fmR_50_7 (by decide)) ?_
            refine w_iload rfl rfl ?_
            refine w_topv (z := 8) (by decide) ?_
            refine w_pushI rfl ?_
            refine w_isubv (z := 3) rfl (by decide) ?_
            refine w_ialdv (j := 3) (x := 60) rfl rfl (by decide) (by unfold vp_in; decide) (hI _ fmI_56_3 (by decide)) ?_
            refine w_iret rfl (Or.inl rfl) ?_
            show gW _ _ _ _ _ _ _ _ _ _
            refine w_goto rfl ?_
            refine w_iret rfl (Or.inl rfl) ?_
            exact congrArg (fun v => some (Value.int v)) (show (60 : Int32) = f1_of (0) (8) by have e0 : (0 : Int32).toInt = 0 := rfl; have e1 : (8 : Int32).toInt = 8 := rfl; exact ite_eq_of (fun _ => ite_eq_of (fun hc => absurd hc (by omega)) (fun _ => ite_eq_of (fun hc => absurd hc (by omega)) (fun _ => ite_eq_of (fun hc => absurd hc (by omega)) (fun _ => ite_eq_of (fun _ => rfl) (fun hc => absurd (by omega) hc))))) (fun hc => absurd (by omega) hc))
          · obtain rfl : b = 9 := i_is hs8 (by decide)
            refine w_swO (x := 9) rfl (show ∀ q ∈ [((0 : Int32), 36), ((1 : Int32), 43), ((2 : Int32), 50), ((3 : Int32), 57), ((4 : Int32), 64)], ¬ (9 : Int32) = q.1 by decide) ?_
            refine w_aload rfl rfl ?_
            refine w_getR (r := 56) rfl rfl (hR _ fmR_50_7 (by decide)) ?_
            refine w_iload rfl rfl ?_
            refine w_topv (z := 9) (by decide) ?_
            refine w_pushI rfl ?_
            refine w_isubv (z := 4) rfl (by decide) ?_
            refine w_ialdv (j := 4) (x := 90) rfl rfl (by decide) (by unfold vp_in; decide) (hI _ fmI_56_4 (by decide)) ?_
            refine w_iret rfl (Or.inl rfl) ?_
            show gW _ _ _ _ _ _ _ _ _ _
            refine w_goto rfl ?_
            refine w_iret rfl (Or.inl rfl) ?_
            exact congrArg (fun v => some (Value.int v)) (show (90 : Int32) = f1_of (0) (9) by have e0 : (0 : Int32).toInt = 0 := rfl; have e1 : (9 : Int32).toInt = 9 := rfl; exact ite_eq_of (fun _ => ite_eq_of (fun hc => absurd hc (by omega)) (fun _ => ite_eq_of (fun hc => absurd hc (by omega)) (fun _ => ite_eq_of (fun hc => absurd hc (by omega)) (fun _ => ite_eq_of (fun hc => absurd hc (by omega)) (fun _ => ite_eq_of (fun _ => rfl) (fun hc => absurd (by omega) hc)))))) (fun hc => absurd (by omega) hc))
          · obtain rfl : b = 10 := i_is hs8 (by decide)
            refine w_swO (x := 10) rfl (show ∀ q ∈ [((0 : Int32), 36), ((1 : Int32), 43), ((2 : Int32), 50), ((3 : Int32), 57), ((4 : Int32), 64)], ¬ (10 : Int32) = q.1 by decide) ?_
            refine w_aload rfl rfl ?_
            refine w_getR (r := 56) rfl rfl (hR _ fmR_50_7 (by decide)) ?_
            refine w_iload rfl rfl ?_
            refine w_topv (z := 10) (by decide) ?_
            refine w_pushI rfl ?_
            refine w_isubv (z := 5) rfl (by decide) ?_
            refine w_ialdv (j := 5) (x := 3) rfl rfl (by decide) (by unfold vp_in; decide) (hI _ fmI_56_5 (by decide)) ?_
            refine w_iret rfl (Or.inl rfl) ?_
            show gW _ _ _ _ _ _ _ _ _ _
            refine w_goto rfl ?_
            refine w_iret rfl (Or.inl rfl) ?_
            exact congrArg (fun v => some (Value.int v)) (show (3 : Int32) = f1_of (0) (10) by have e0 : (0 : Int32).toInt = 0 := rfl; have e1 : (10 : Int32).toInt = 10 := rfl; exact ite_eq_of (fun _ => ite_eq_of (fun hc => absurd hc (by omega)) (fun _ => ite_eq_of (fun hc => absurd hc (by omega)) (fun _ => ite_eq_of (fun hc => absurd hc (by omega)) (fun _ => ite_eq_of (fun hc => absurd hc (by omega)) (fun _ => ite_eq_of (fun hc => absurd hc (by omega)) (fun _ => ite_eq_of (fun _ => rfl) (fun hc => absurd (by omega) hc))))))) (fun hc => absurd (by omega) hc))
          · obtain rfl : b = 11 := i_is hs8 (by decide)
            refine w_swO (x := 11) rfl (show ∀ q ∈ [((0 : Int32), 36), ((1 : Int32), 43), ((2 : Int32), 50), ((3 : Int32), 57), ((4 : Int32), 64)], ¬ (11 : Int32) = q.1 by decide) ?_
            refine w_aload rfl rfl ?_
            refine w_getR (r := 56) rfl rfl (hR _ fmR_50_7 (by decide)) ?_
            refine w_iload rfl rfl ?_
            refine w_topv (z := 11) (by decide) ?_
            refine w_pushI rfl ?_
            refine w_isubv (z := 6) rfl (by decide) ?_
            refine w_ialdv (j := 6) (x := 20) rfl rfl (by decide) (by unfold vp_in; decide) (hI _ fmI_56_6 (by decide)) ?_
            refine w_iret rfl (Or.inl rfl) ?_
            show gW _ _ _ _ _ _ _ _ _ _
            refine w_goto rfl ?_
            refine w_iret rfl (Or.inl rfl) ?_
            exact congrArg (fun v => some (Value.int v)) (show (20 : Int32) = f1_of (0) (11) by have e0 : (0 : Int32).toInt = 0 := rfl; have e1 : (11 : Int32).toInt = 11 := rfl; exact ite_eq_of (fun _ => ite_eq_of (fun hc => absurd hc (by omega)) (fun _ => ite_eq_of (fun hc => absurd hc (by omega)) (fun _ => ite_eq_of (fun hc => absurd hc (by omega)) (fun _ => ite_eq_of (fun hc => absurd hc (by omega)) (fun _ => ite_eq_of (fun hc => absurd hc (by omega)) (fun _ => ite_eq_of (fun hc => absurd hc (by omega)) (fun _ => ite_eq_of (fun _ => rfl) (fun hc => absurd (by omega) hc)))))))) (fun hc => absurd (by omega) hc))
          · obtain rfl : b = 12 := i_is hs8 (by decide)
            refine w_swO (x := 12) rfl (show ∀ q ∈ [((0 : Int32), 36), ((1 : Int32), 43), ((2 : Int32), 50), ((3 : Int32), 57), ((4 : Int32), 64)], ¬ (12 : Int32) = q.1 by decide) ?_
            refine w_aload rfl rfl ?_
            refine w_getR (r := 56) rfl rfl (hR _ fmR_50_7 (by decide)) ?_
            refine w_iload rfl rfl ?_
            refine w_topv (z := 12) (by decide) ?_
            refine w_pushI rfl ?_
            refine w_isubv (z := 7) rfl (by decide) ?_
            refine w_ialdv (j := 7) (x := 60) rfl rfl (by decide) (by unfold vp_in; decide) (hI _ fmI_56_7 (by decide)) ?_
            refine w_iret rfl (Or.inl rfl) ?_
            show gW _ _ _ _ _ _ _ _ _ _
            refine w_goto rfl ?_
            refine w_iret rfl (Or.inl rfl) ?_
            exact congrArg (fun v => some (Value.int v)) (show (60 : Int32) = f1_of (0) (12) by have e0 : (0 : Int32).toInt = 0 := rfl; have e1 : (12 : Int32).toInt = 12 := rfl; exact ite_eq_of (fun _ => ite_eq_of (fun hc => absurd hc (by omega)) (fun _ => ite_eq_of (fun hc => absurd hc (by omega)) (fun _ => ite_eq_of (fun hc => absurd hc (by omega)) (fun _ => ite_eq_of (fun hc => absurd hc (by omega)) (fun _ => ite_eq_of (fun hc => absurd hc (by omega)) (fun _ => ite_eq_of (fun hc => absurd hc (by omega)) (fun _ => ite_eq_of (fun hc => absurd hc (by omega)) (fun _ => ite_eq_of (fun _ => rfl) (fun hc => absurd (by omega) hc))))))))) (fun hc => absurd (by omega) hc))
          · obtain rfl : b = 13 := i_is hs8 (by decide)
            refine w_swO (x := 13) rfl (show ∀ q ∈ [((0 : Int32), 36), ((1 : Int32), 43), ((2 : Int32), 50), ((3 : Int32), 57), ((4 : Int32), 64)], ¬ (13 : Int32) = q.1 by decide) ?_
            refine w_aload rfl rfl ?_
            refine w_getR (r := 56) rfl rfl (hR _ fmR_50_7 (by decide)) ?_
            refine w_iload rfl rfl ?_
            refine w_topv (z := 13) (by decide) ?_
            refine w_pushI rfl ?_
            refine w_isubv (z := 8) rfl (by decide) ?_
            refine w_ialdv (j := 8) (x := 20) rfl rfl (by decide) (by unfold vp_in; decide) (hI _ fmI_56_8 (by decide)) ?_
            refine w_iret rfl (Or.inl rfl) ?_
            show gW _ _ _ _ _ _ _ _ _ _
            refine w_goto rfl ?_
            refine w_iret rfl (Or.inl rfl) ?_
            exact congrArg (fun v => some (Value.int v)) (show (20 : Int32) = f1_of (0) (13) by have e0 : (0 : Int32).toInt = 0 := rfl; have e1 : (13 : Int32).toInt = 13 := rfl; exact ite_eq_of (fun _ => ite_eq_of (fun hc => absurd hc (by omega)) (fun _ => ite_eq_of (fun hc => absurd hc (by omega)) (fun _ => ite_eq_of (fun hc => absurd hc (by omega)) (fun _ => ite_eq_of (fun hc => absurd hc (by omega)) (fun _ => ite_eq_of (fun hc => absurd hc (by omega)) (fun _ => ite_eq_of (fun hc => absurd hc (by omega)) (fun _ => ite_eq_of (fun hc => absurd hc (by omega)) (fun _ => ite_eq_of (fun hc => absurd hc (by omega)) (fun _ => ite_eq_of (fun _ => rfl) (fun hc => absurd (by omega) hc)))))))))) (fun hc => absurd (by omega) hc))
      · refine w_pushI rfl ?_
        refine w_goto rfl ?_
        refine w_iret rfl (Or.inr ⟨rfl, by decide⟩) ?_
        show gW _ _ _ _ _ _ _ _ _ _
        refine w_if_eq rfl (fun h => absurd h (by decide)) (fun _ => ?_)
        refine w_aload rfl rfl ?_
        refine w_iload rfl rfl ?_
        refine w_callVi (As := [_]) (le := [some _, some _]) rfl rfl rfl (Nat.le_of_ble_eq_true rfl) (Nat.le_of_ble_eq_true rfl) rfl ?_
        refine w_iload rfl rfl ?_
        refine w_pushI rfl ?_
        refine w_aload rfl rfl ?_
        refine w_getIv (x := 0) rfl rfl (hI _ fmI_50_1 (by decide)) ?_
        refine w_pushI rfl ?_
        refine w_isubv (z := (-1)) rfl (by decide) ?_
        refine w_callSi (As := [_, _, _]) (le := [some _, some _, some _]) rfl rfl (Nat.le_of_ble_eq_true rfl) (Nat.le_of_ble_eq_true rfl) rfl ?_
        refine w_iload rfl rfl ?_
        refine w_iload rfl rfl ?_
        refine w_icmp_ltZ (b := 0) rfl rfl (by decide) (fun h4 => ?_) (fun h4 => ?_)
        · refine w_pushI rfl ?_
          refine w_iret rfl (Or.inr ⟨rfl, by decide⟩) ?_
          show gW _ _ _ _ _ _ _ _ _ _
          refine w_iret rfl (Or.inr ⟨rfl, by decide⟩) ?_
          show gW _ _ _ _ _ _ _ _ _ _
          refine w_goto rfl ?_
          refine w_iret rfl (Or.inr ⟨rfl, by decide⟩) ?_
          show gW _ _ _ _ _ _ _ _ _ _
          refine w_if_eq rfl (fun _ => ?_) (fun h => absurd (by decide) h)
          refine w_pushI rfl ?_
          refine w_iret rfl (Or.inl rfl) ?_
          exact congrArg (fun v => some (Value.int v)) (show ((-1) : Int32) = f1_of a b by exact ite_eq_of (fun hc => absurd hc (by omega)) (fun _ => rfl))
        · refine w_iload rfl rfl ?_
          refine w_iload rfl rfl ?_
          refine w_icmp_gtZ (b := (-1)) rfl rfl (by decide) (fun h5 => ?_) (fun h5 => by exfalso; omega)
          refine w_pushI rfl ?_
          refine w_iret rfl (Or.inr ⟨rfl, by decide⟩) ?_
          show gW _ _ _ _ _ _ _ _ _ _
          refine w_iret rfl (Or.inr ⟨rfl, by decide⟩) ?_
          show gW _ _ _ _ _ _ _ _ _ _
          refine w_goto rfl ?_
          refine w_iret rfl (Or.inr ⟨rfl, by decide⟩) ?_
          show gW _ _ _ _ _ _ _ _ _ _
          refine w_if_eq rfl (fun _ => ?_) (fun h => absurd (by decide) h)
          refine w_pushI rfl ?_
          refine w_iret rfl (Or.inl rfl) ?_
          exact congrArg (fun v => some (Value.int v)) (show ((-1) : Int32) = f1_of a b by exact ite_eq_of (fun hc => ite_eq_of (fun hc => absurd hc (by omega)) (fun _ => ite_eq_of (fun hc => absurd hc (by omega)) (fun _ => ite_eq_of (fun hc => absurd hc (by omega)) (fun _ => ite_eq_of (fun hc => absurd hc (by omega)) (fun _ => ite_eq_of (fun hc => absurd hc (by omega)) (fun _ => ite_eq_of (fun hc => absurd hc (by omega)) (fun _ => ite_eq_of (fun hc => absurd hc (by omega)) (fun _ => ite_eq_of (fun hc => absurd hc (by omega)) (fun _ => ite_eq_of (fun hc => absurd hc (by omega)) (fun _ => rfl)))))))))) (fun hc => rfl))
  · refine w_iload rfl rfl ?_
    refine w_iload rfl rfl ?_
    refine w_icmp_gtZ (b := 15) rfl rfl (by decide) (fun h2 => ?_) (fun h2 => ?_)
    · refine w_pushI rfl ?_
      refine w_iret rfl (Or.inr ⟨rfl, by decide⟩) ?_
      show gW _ _ _ _ _ _ _ _ _ _
      refine w_if_eq rfl (fun _ => ?_) (fun h => absurd (by decide) h)
      refine w_aload rfl rfl ?_
      refine w_iload rfl rfl ?_
      refine w_iload rfl rfl ?_
      refine w_callVi (As := [_, _]) (le := [some _, some _, some _]) rfl rfl rfl (Nat.le_of_ble_eq_true rfl) (Nat.le_of_ble_eq_true rfl) rfl ?_
      refine w_iload rfl rfl ?_
      refine w_pushI rfl ?_
      refine w_pushI rfl ?_
      refine w_callSi (As := [_, _, _]) (le := [some _, some _, some _]) rfl rfl (Nat.le_of_ble_eq_true rfl) (Nat.le_of_ble_eq_true rfl) rfl ?_
      refine w_iload rfl rfl ?_
      refine w_iload rfl rfl ?_
      refine w_icmp_ltZ (b := 0) rfl rfl (by decide) (fun h3 => by exfalso; omega) (fun h3 => ?_)
      refine w_iload rfl rfl ?_
      refine w_iload rfl rfl ?_
      refine w_icmp_gtZ (b := 4) rfl rfl (by decide) (fun h4 => ?_) (fun h4 => by exfalso; omega)
      refine w_pushI rfl ?_
      refine w_iret rfl (Or.inr ⟨rfl, by decide⟩) ?_
      show gW _ _ _ _ _ _ _ _ _ _
      refine w_if_eq rfl (fun _ => ?_) (fun h => absurd (by decide) h)
      refine w_iload rfl rfl ?_
      refine w_pushI rfl ?_
      refine w_pushI rfl ?_
      refine w_callSi (As := [_, _, _]) (le := [some _, some _, some _]) rfl rfl (Nat.le_of_ble_eq_true rfl) (Nat.le_of_ble_eq_true rfl) rfl ?_
      refine w_iload rfl rfl ?_
      refine w_iload rfl rfl ?_
      refine w_icmp_ltZ (b := 5) rfl rfl (by decide) (fun h5 => by exfalso; omega) (fun h5 => ?_)
      refine w_iload rfl rfl ?_
      refine w_iload rfl rfl ?_
      refine w_icmp_gtZ (b := 13) rfl rfl (by decide) (fun h6 => ?_) (fun h6 => by exfalso; omega)
      refine w_pushI rfl ?_
      refine w_iret rfl (Or.inr ⟨rfl, by decide⟩) ?_
      show gW _ _ _ _ _ _ _ _ _ _
      refine w_if_eq rfl (fun _ => ?_) (fun h => absurd (by decide) h)
      refine w_pushI rfl ?_
      refine w_iret rfl (Or.inr ⟨rfl, by decide⟩) ?_
      show gW _ _ _ _ _ _ _ _ _ _
      refine w_if_eq rfl (fun _ => ?_) (fun h => absurd (by decide) h)
      refine w_pushI rfl ?_
      refine w_iret rfl (Or.inl rfl) ?_
      exact congrArg (fun v => some (Value.int v)) (show ((-1) : Int32) = f1_of a b by exact ite_eq_of (fun hc => ite_eq_of (fun hc => absurd hc (by omega)) (fun _ => ite_eq_of (fun hc => absurd hc (by omega)) (fun _ => ite_eq_of (fun hc => absurd hc (by omega)) (fun _ => ite_eq_of (fun hc => absurd hc (by omega)) (fun _ => ite_eq_of (fun hc => absurd hc (by omega)) (fun _ => ite_eq_of (fun hc => absurd hc (by omega)) (fun _ => ite_eq_of (fun hc => absurd hc (by omega)) (fun _ => ite_eq_of (fun hc => absurd hc (by omega)) (fun _ => ite_eq_of (fun hc => absurd hc (by omega)) (fun _ => rfl)))))))))) (fun hc => rfl))
    · refine w_pushI rfl ?_
      refine w_goto rfl ?_
      refine w_iret rfl (Or.inr ⟨rfl, by decide⟩) ?_
      show gW _ _ _ _ _ _ _ _ _ _
      refine w_if_eq rfl (fun h => absurd h (by decide)) (fun _ => ?_)
      refine w_aload rfl rfl ?_
      refine w_iload rfl rfl ?_
      refine w_callVi (As := [_]) (le := [some _, some _]) rfl rfl rfl (Nat.le_of_ble_eq_true rfl) (Nat.le_of_ble_eq_true rfl) rfl ?_
      refine w_iload rfl rfl ?_
      refine w_pushI rfl ?_
      refine w_aload rfl rfl ?_
      refine w_getIv (x := 0) rfl rfl (hI _ fmI_50_1 (by decide)) ?_
      refine w_pushI rfl ?_
      refine w_isubv (z := (-1)) rfl (by decide) ?_
      refine w_callSi (As := [_, _, _]) (le := [some _, some _, some _]) rfl rfl (Nat.le_of_ble_eq_true rfl) (Nat.le_of_ble_eq_true rfl) rfl ?_
      refine w_iload rfl rfl ?_
      refine w_iload rfl rfl ?_
      refine w_icmp_ltZ (b := 0) rfl rfl (by decide) (fun h3 => ?_) (fun h3 => ?_)
      · refine w_pushI rfl ?_
        refine w_iret rfl (Or.inr ⟨rfl, by decide⟩) ?_
        show gW _ _ _ _ _ _ _ _ _ _
        refine w_iret rfl (Or.inr ⟨rfl, by decide⟩) ?_
        show gW _ _ _ _ _ _ _ _ _ _
        refine w_if_ne rfl (fun h => absurd (by decide) h) (fun _ => ?_)
        refine w_pushI rfl ?_
        refine w_goto rfl ?_
        refine w_iret rfl (Or.inl rfl) ?_
        exact congrArg (fun v => some (Value.int v)) (show ((-1) : Int32) = f1_of a b by exact ite_eq_of (fun hc => absurd hc (by omega)) (fun _ => rfl))
      · refine w_iload rfl rfl ?_
        refine w_iload rfl rfl ?_
        refine w_icmp_gtZ (b := (-1)) rfl rfl (by decide) (fun h4 => ?_) (fun h4 => by exfalso; omega)
        refine w_pushI rfl ?_
        refine w_iret rfl (Or.inr ⟨rfl, by decide⟩) ?_
        show gW _ _ _ _ _ _ _ _ _ _
        refine w_iret rfl (Or.inr ⟨rfl, by decide⟩) ?_
        show gW _ _ _ _ _ _ _ _ _ _
        refine w_if_ne rfl (fun h => absurd (by decide) h) (fun _ => ?_)
        refine w_pushI rfl ?_
        refine w_goto rfl ?_
        refine w_iret rfl (Or.inl rfl) ?_
        exact congrArg (fun v => some (Value.int v)) (show ((-1) : Int32) = f1_of a b by exact ite_eq_of (fun hc => ite_eq_of (fun hc => absurd hc (by omega)) (fun _ => ite_eq_of (fun hc => absurd hc (by omega)) (fun _ => ite_eq_of (fun hc => absurd hc (by omega)) (fun _ => ite_eq_of (fun hc => absurd hc (by omega)) (fun _ => ite_eq_of (fun hc => absurd hc (by omega)) (fun _ => ite_eq_of (fun hc => absurd hc (by omega)) (fun _ => ite_eq_of (fun hc => absurd hc (by omega)) (fun _ => ite_eq_of (fun hc => absurd hc (by omega)) (fun _ => ite_eq_of (fun hc => absurd hc (by omega)) (fun _ => rfl)))))))))) (fun hc => rfl))
set_option maxHeartbeats 40000000 in
set_option maxRecDepth 100000 in
theorem a1_feed {X : Nat × (Nat → Int32)} {d : Nat} {I : Nat → Nat → Int32} {L : Nat → Nat → Int64} {R : Nat → Nat → Option Nat} (hI : ∀ q ∈ gFlI, I q.1 q.2.1 = q.2.2) (hL : ∀ q ∈ gFlL, L q.1 q.2.1 = q.2.2) (hR : ∀ q ∈ gFlR, R q.1 q.2.1 = some q.2.2) (a : Int32) : gW X (d + 12) 106 0 0 0 (gEn 106 [.ref 0, .int a]) [] (gK 87, I, L, R) (fun r σ => r = some (.int (f1_feed a)) ∧ gFr σ I L R) := by
  show gW _ _ _ _ _ _ [some (.ref 0), some (.int a)] _ _ _
  refine w_iload rfl rfl ?_
  refine w_if_ltZ rfl rfl (fun h1 => ?_) (fun h1 => ?_)
  · refine w_pushI rfl ?_
    refine w_iret rfl (Or.inl rfl) ?_
    exact ⟨congrArg (fun v => some (Value.int v)) (show ((-1) : Int32) = f1_feed a by exact ite_eq_of (fun hc => absurd hc (by omega)) (fun _ => rfl)), rfl, fun x hx => rfl, fun x hx => rfl, fun x hx => rfl⟩
  · refine w_iload rfl rfl ?_
    refine w_pushI rfl ?_
    refine w_icmp_leZ (b := 255) rfl rfl (by decide) (fun h2 => ?_) (fun h2 => ?_)
    · refine w_aload rfl rfl ?_
      refine w_getR (r := 1) rfl rfl (hR _ fmR_0_0) ?_
      refine w_iload rfl rfl ?_
      refine w_callVi (As := [_]) (le := [some _, some _]) rfl rfl rfl (Nat.le_of_ble_eq_true rfl) (Nat.le_of_ble_eq_true rfl) rfl ?_
      refine w_aload rfl rfl ?_
      refine w_getIv (x := 0) rfl rfl (hI _ fmI_1_1) ?_
      refine w_pushI rfl ?_
      refine w_icmp_lt rfl (fun _ => ?_) (fun h => absurd (by decide) h)
      refine w_aload rfl rfl ?_
      refine w_getR (r := 2) rfl rfl (hR _ fmR_1_0) ?_
      refine w_aload rfl rfl ?_
      refine w_getIv (x := 0) rfl rfl (hI _ fmI_1_1) ?_
      refine w_iload rfl rfl ?_
      refine w_iastv (j := 0) rfl rfl (by decide) (by unfold vp_in; decide) rfl ?_
      refine w_aload rfl rfl ?_
      refine w_dup rfl rfl ?_
      refine w_getIv (x := 0) rfl rfl ((gU_n (by decide)).trans (hI _ fmI_1_1)) ?_
      refine w_pushI rfl ?_
      refine w_iaddv (z := 1) rfl (by decide) ?_
      refine w_putI rfl rfl ?_
      refine w_pushI rfl ?_
      refine w_iret rfl (Or.inr ⟨rfl, by decide⟩) ?_
      show gW _ _ _ _ _ _ _ _ _ _
      refine w_if_eq rfl (fun h => absurd h (by decide)) (fun _ => ?_)
      refine w_aload rfl rfl ?_
      refine w_getR (r := 1) rfl rfl (hR _ fmR_0_0) ?_
      refine w_getIv (x := 1) rfl rfl (gU_e) ?_
      refine w_goto rfl ?_
      refine w_iret rfl (Or.inl rfl) ?_
      exact ⟨congrArg (fun v => some (Value.int v)) (show (1 : Int32) = f1_feed a by exact ite_eq_of (fun _ => rfl) (fun hc => absurd (by omega) hc)), rfl, fun x hx => (gU_o (by omega)).trans (gU_o (by omega)), fun x hx => rfl, fun x hx => rfl⟩
    · refine w_pushI rfl ?_
      refine w_iret rfl (Or.inl rfl) ?_
      exact ⟨congrArg (fun v => some (Value.int v)) (show ((-1) : Int32) = f1_feed a by exact ite_eq_of (fun hc => absurd hc (by omega)) (fun _ => rfl)), rfl, fun x hx => rfl, fun x hx => rfl, fun x hx => rfl⟩
set_option maxHeartbeats 40000000 in
set_option maxRecDepth 100000 in
theorem a2_feed {X : Nat × (Nat → Int32)} {d : Nat} {I : Nat → Nat → Int32} {L : Nat → Nat → Int64} {R : Nat → Nat → Option Nat} (hI : ∀ q ∈ gFlI, 50 ≤ q.1 → I q.1 q.2.1 = q.2.2) (hL : ∀ q ∈ gFlL, 50 ≤ q.1 → L q.1 q.2.1 = q.2.2) (hR : ∀ q ∈ gFlR, 50 ≤ q.1 → R q.1 q.2.1 = some q.2.2) (a : Int32) : gW X (d + 12) 164 0 0 0 (gEn 164 [.ref 50, .int a]) [] (gK 87, I, L, R) (fun r _ => r = some (.int (f1_feed a))) := by
  show gW _ _ _ _ _ _ [some (.ref 50), some (.int a)] _ _ _
  refine w_iload rfl rfl ?_
  refine w_pushI rfl ?_
  refine w_pushI rfl ?_
  refine w_callSi (As := [_, _, _]) (le := [some _, some _, some _]) rfl rfl (Nat.le_of_ble_eq_true rfl) (Nat.le_of_ble_eq_true rfl) rfl ?_
  refine w_iload rfl rfl ?_
  refine w_iload rfl rfl ?_
  refine w_icmp_ltZ (b := 0) rfl rfl (by decide) (fun h1 => ?_) (fun h1 => ?_)
  · refine w_pushI rfl ?_
    refine w_iret rfl (Or.inr ⟨rfl, by decide⟩) ?_
    show gW _ _ _ _ _ _ _ _ _ _
    refine w_if_ne rfl (fun h => absurd (by decide) h) (fun _ => ?_)
    refine w_pushI rfl ?_
    refine w_iret rfl (Or.inl rfl) ?_
    exact congrArg (fun v => some (Value.int v)) (show ((-1) : Int32) = f1_feed a by exact ite_eq_of (fun hc => absurd hc (by omega)) (fun _ => rfl))
  · refine w_iload rfl rfl ?_
    refine w_iload rfl rfl ?_
    refine w_icmp_gtZ (b := 255) rfl rfl (by decide) (fun h2 => ?_) (fun h2 => ?_)
    · refine w_pushI rfl ?_
      refine w_iret rfl (Or.inr ⟨rfl, by decide⟩) ?_
      show gW _ _ _ _ _ _ _ _ _ _
      refine w_if_ne rfl (fun h => absurd (by decide) h) (fun _ => ?_)
      refine w_pushI rfl ?_
      refine w_iret rfl (Or.inl rfl) ?_
      exact congrArg (fun v => some (Value.int v)) (show ((-1) : Int32) = f1_feed a by exact ite_eq_of (fun hc => absurd hc (by omega)) (fun _ => rfl))
    · refine w_pushI rfl ?_
      refine w_goto rfl ?_
      refine w_iret rfl (Or.inr ⟨rfl, by decide⟩) ?_
      show gW _ _ _ _ _ _ _ _ _ _
      refine w_if_ne rfl (fun _ => ?_) (fun h => absurd h (by decide))
      refine w_aload rfl rfl ?_
      refine w_getIv (x := 0) rfl rfl (hI _ fmI_50_15 (by decide)) ?_
      refine w_pushI rfl ?_
      refine w_icmp_ne rfl (fun _ => ?_) (fun h => absurd h (by decide))
      refine w_aload rfl rfl ?_
      refine w_getR (r := 61) rfl rfl (hR _ fmR_50_14 (by decide)) ?_
      refine w_aload rfl rfl ?_
      refine w_getIv (x := 0) rfl rfl (hI _ fmI_50_15 (by decide)) ?_
      refine w_iload rfl rfl ?_
      refine w_i2b rfl ?_
      refine w_bastv (j := 0) rfl rfl (by decide) (by unfold vp_in; decide) rfl ?_
      refine w_aload rfl rfl ?_
      refine w_dup rfl rfl ?_
      refine w_getIv (x := 0) rfl rfl ((gU_n (by decide)).trans (hI _ fmI_50_15 (by decide))) ?_
      refine w_pushI rfl ?_
      refine w_iaddv (z := 1) rfl (by decide) ?_
      refine w_putI rfl rfl ?_
      refine w_aload rfl rfl ?_
      refine w_getIv (x := 1) rfl rfl (gU_e) ?_
      refine w_iret rfl (Or.inl rfl) ?_
      exact congrArg (fun v => some (Value.int v)) (show (1 : Int32) = f1_feed a by exact ite_eq_of (fun _ => rfl) (fun hc => absurd (by omega) hc))
set_option maxHeartbeats 40000000 in
set_option maxRecDepth 100000 in
theorem a1_law {X : Nat × (Nat → Int32)} {d : Nat} {I : Nat → Nat → Int32} {L : Nat → Nat → Int64} {R : Nat → Nat → Option Nat} (hI : ∀ q ∈ gFlI, I q.1 q.2.1 = q.2.2) (hL : ∀ q ∈ gFlL, L q.1 q.2.1 = q.2.2) (hR : ∀ q ∈ gFlR, R q.1 q.2.1 = some q.2.2)  : gW X (d + 12) 107 0 0 0 (gEn 107 [.ref 0]) [] (gK 87, I, L, R) (fun r σ => r = some (.int (f1_law )) ∧ gFr σ I L R) := by
  show gW _ _ _ _ _ _ [some (.ref 0)] _ _ _
  refine w_aload rfl rfl ?_
  refine w_getR (r := 1) rfl rfl (hR _ fmR_0_0) ?_
  refine w_callVi (As := []) (le := [some _, none]) rfl rfl rfl (Nat.le_of_ble_eq_true rfl) (Nat.le_of_ble_eq_true rfl) rfl ?_
  refine w_aload rfl rfl ?_
  refine w_callVi (As := []) (le := [some _, none]) rfl rfl rfl (Nat.le_of_ble_eq_true rfl) (Nat.le_of_ble_eq_true rfl) rfl ?_
  refine w_aload rfl rfl ?_
  refine w_pushI rfl ?_
  refine w_putI rfl rfl ?_
  refine w_aload rfl rfl ?_
  refine w_pushI rfl ?_
  refine w_putI rfl rfl ?_
  refine w_pushI rfl ?_
  refine w_istore rfl rfl ?_
  refine w_iload rfl rfl ?_
  refine w_pushI rfl ?_
  refine w_icmp_gt rfl (fun h => absurd h (by decide)) (fun _ => ?_)
  refine w_aload rfl rfl ?_
  refine w_callVi (As := []) (le := [some _]) rfl rfl rfl (Nat.le_of_ble_eq_true rfl) (Nat.le_of_ble_eq_true rfl) rfl ?_
  refine w_aload rfl rfl ?_
  refine w_pushI rfl ?_
  refine w_pushI rfl ?_
  refine w_callVi (As := [_, _]) (le := [some _, some _, some _, none, none, none]) rfl rfl rfl (Nat.le_of_ble_eq_true rfl) (Nat.le_of_ble_eq_true rfl) rfl ?_
  refine w_iload rfl rfl ?_
  refine w_pushI rfl ?_
  refine w_icmp_le rfl (fun _ => ?_) (fun h => absurd (by decide) h)
  refine w_aload rfl rfl ?_
  refine w_iload rfl rfl ?_
  refine w_pushI rfl ?_
  refine w_iaddv (z := 1) rfl (by decide) ?_
  refine w_iload rfl rfl ?_
  refine w_callVi (As := [_, _]) (le := [some _, some _, some _, none, none, none]) rfl rfl rfl (Nat.le_of_ble_eq_true rfl) (Nat.le_of_ble_eq_true rfl) rfl ?_
  refine w_iload rfl rfl ?_
  refine w_pushI rfl ?_
  refine w_icmp_le rfl (fun _ => ?_) (fun h => absurd (by decide) h)
  refine w_aload rfl rfl ?_
  refine w_iload rfl rfl ?_
  refine w_pushI rfl ?_
  refine w_iaddv (z := 2) rfl (by decide) ?_
  refine w_iload rfl rfl ?_
  refine w_callVi (As := [_, _]) (le := [some _, some _, some _, none, none, none]) rfl rfl rfl (Nat.le_of_ble_eq_true rfl) (Nat.le_of_ble_eq_true rfl) rfl ?_
  refine w_iload rfl rfl ?_
  refine w_pushI rfl ?_
  refine w_icmp_le rfl (fun _ => ?_) (fun h => absurd (by decide) h)
  refine w_aload rfl rfl ?_
  refine w_iload rfl rfl ?_
  refine w_pushI rfl ?_
  refine w_iaddv (z := 3) rfl (by decide) ?_
  refine w_iload rfl rfl ?_
  refine w_callVi (As := [_, _]) (le := [some _, some _, some _, none, none, none]) rfl rfl rfl (Nat.le_of_ble_eq_true rfl) (Nat.le_of_ble_eq_true rfl) rfl ?_
  refine w_iload rfl rfl ?_
  refine w_pushI rfl ?_
  refine w_icmp_le rfl (fun _ => ?_) (fun h => absurd (by decide) h)
  refine w_aload rfl rfl ?_
  refine w_iload rfl rfl ?_
  refine w_pushI rfl ?_
  refine w_iaddv (z := 4) rfl (by decide) ?_
  refine w_iload rfl rfl ?_
  refine w_callVi (As := [_, _]) (le := [some _, some _, some _, none, none, none]) rfl rfl rfl (Nat.le_of_ble_eq_true rfl) (Nat.le_of_ble_eq_true rfl) rfl ?_
  refine w_iload rfl rfl ?_
  refine w_pushI rfl ?_
  refine w_icmp_le rfl (fun _ => ?_) (fun h => absurd (by decide) h)
  refine w_aload rfl rfl ?_
  refine w_iload rfl rfl ?_
  refine w_pushI rfl ?_
  refine w_iaddv (z := 5) rfl (by decide) ?_
  refine w_iload rfl rfl ?_
  refine w_callVi (As := [_, _]) (le := [some _, some _, some _, none, none, none]) rfl rfl rfl (Nat.le_of_ble_eq_true rfl) (Nat.le_of_ble_eq_true rfl) rfl ?_
  refine w_iload rfl rfl ?_
  refine w_pushI rfl ?_
  refine w_icmp_le rfl (fun h => absurd h (by decide)) (fun _ => ?_)
  refine w_aload rfl rfl ?_
  refine w_iload rfl rfl ?_
  refine w_callVi (As := [_]) (le := [some _, some _, none]) rfl rfl rfl (Nat.le_of_ble_eq_true rfl) (Nat.le_of_ble_eq_true rfl) rfl ?_
  refine w_aload rfl rfl ?_
  refine w_callVi (As := []) (le := [some _]) rfl rfl rfl (Nat.le_of_ble_eq_true rfl) (Nat.le_of_ble_eq_true rfl) rfl ?_
  refine w_aload rfl rfl ?_
  refine w_getIv (x := 0) rfl rfl ((gU_n (by decide)).trans (gU_e)) ?_
  refine w_aload rfl rfl ?_
  refine w_getIv (x := 0) rfl rfl ((gU_n (by decide)).trans ((gU_n (by decide)).trans (hI _ fmI_1_1))) ?_
  refine w_icmp_ge rfl (fun _ => ?_) (fun h => absurd (by decide) h)
  refine w_pushI rfl ?_
  refine w_iret rfl (Or.inl rfl) ?_
  show gW _ _ _ _ _ _ _ _ _ _
  refine w_istore rfl rfl ?_
  refine w_iload rfl rfl ?_
  refine w_callSi (As := [_]) (le := [some _]) rfl rfl (Nat.le_of_ble_eq_true rfl) (Nat.le_of_ble_eq_true rfl) rfl ?_
  refine w_iload rfl rfl ?_
  refine w_pushI rfl ?_
  refine w_icmp_lt rfl (fun _ => ?_) (fun h => absurd (by decide) h)
  refine w_pushI rfl ?_
  refine w_iret rfl (Or.inr ⟨rfl, by decide⟩) ?_
  show gW _ _ _ _ _ _ _ _ _ _
  refine w_if_eq rfl (fun _ => ?_) (fun h => absurd (by decide) h)
  refine w_iload rfl rfl ?_
  refine w_callSi (As := [_]) (le := [some _]) rfl rfl (Nat.le_of_ble_eq_true rfl) (Nat.le_of_ble_eq_true rfl) rfl ?_
  refine w_iload rfl rfl ?_
  refine w_pushI rfl ?_
  refine w_icmp_eq rfl (fun h => absurd h (by decide)) (fun _ => ?_)
  refine w_iload rfl rfl ?_
  refine w_pushI rfl ?_
  refine w_icmp_eq rfl (fun h => absurd h (by decide)) (fun _ => ?_)
  refine w_iload rfl rfl ?_
  refine w_pushI rfl ?_
  refine w_icmp_eq rfl (fun h => absurd h (by decide)) (fun _ => ?_)
  refine w_iload rfl rfl ?_
  refine w_pushI rfl ?_
  refine w_icmp_eq rfl (fun h => absurd h (by decide)) (fun _ => ?_)
  refine w_iload rfl rfl ?_
  refine w_pushI rfl ?_
  refine w_icmp_eq rfl (fun h => absurd h (by decide)) (fun _ => ?_)
  refine w_iload rfl rfl ?_
  refine w_pushI rfl ?_
  refine w_icmp_ne rfl (fun _ => ?_) (fun h => absurd h (by decide))
  refine w_pushI rfl ?_
  refine w_iret rfl (Or.inr ⟨rfl, by decide⟩) ?_
  show gW _ _ _ _ _ _ _ _ _ _
  refine w_if_eq rfl (fun _ => ?_) (fun h => absurd (by decide) h)
  refine w_iload rfl rfl ?_
  refine w_pushI rfl ?_
  refine w_icmp_eq rfl (fun h => absurd h (by decide)) (fun _ => ?_)
  refine w_iload rfl rfl ?_
  refine w_pushI rfl ?_
  refine w_icmp_eq rfl (fun h => absurd h (by decide)) (fun _ => ?_)
  refine w_iload rfl rfl ?_
  refine w_pushI rfl ?_
  refine w_icmp_ne rfl (fun _ => ?_) (fun h => absurd h (by decide))
  refine w_pushI rfl ?_
  refine w_iret rfl (Or.inr ⟨rfl, by decide⟩) ?_
  show gW _ _ _ _ _ _ _ _ _ _
  refine w_iret rfl (Or.inr ⟨rfl, by decide⟩) ?_
  show gW _ _ _ _ _ _ _ _ _ _
  refine w_if_ne rfl (fun h => absurd (by decide) h) (fun _ => ?_)
  refine w_pushI rfl ?_
  refine w_iret rfl (Or.inr ⟨rfl, by decide⟩) ?_
  show gW _ _ _ _ _ _ _ _ _ _
  refine w_if_ne rfl (fun h => absurd (by decide) h) (fun _ => ?_)
  refine w_pushI rfl ?_
  refine w_iret rfl (Or.inr ⟨rfl, by decide⟩) ?_
  show gW _ _ _ _ _ _ _ _ _ _
  refine w_if_ne rfl (fun h => absurd (by decide) h) (fun _ => ?_)
  refine w_pushI rfl ?_
  refine w_iret rfl (Or.inr ⟨rfl, by decide⟩) ?_
  show gW _ _ _ _ _ _ _ _ _ _
  refine w_if_ne rfl (fun h => absurd (by decide) h) (fun _ => ?_)
  refine w_pushI rfl ?_
  refine w_iret rfl (Or.inr ⟨rfl, by decide⟩) ?_
  show gW _ _ _ _ _ _ _ _ _ _
  refine w_if_ne rfl (fun h => absurd (by decide) h) (fun _ => ?_)
  refine w_pushI rfl ?_
  refine w_iret rfl (Or.inr ⟨rfl, by decide⟩) ?_
  show gW _ _ _ _ _ _ _ _ _ _
  refine w_if_ne rfl (fun h => absurd (by decide) h) (fun _ => ?_)
  refine w_pushI rfl ?_
  refine w_iret rfl (Or.inr ⟨rfl, by decide⟩) ?_
  show gW _ _ _ _ _ _ _ _ _ _
  refine w_if_ne rfl (fun h => absurd (by decide) h) (fun _ => ?_)
  refine w_pushI rfl ?_
  refine w_iret rfl (Or.inr ⟨rfl, by decide⟩) ?_
  show gW _ _ _ _ _ _ _ _ _ _
  refine w_istore rfl rfl ?_
  refine w_iload rfl rfl ?_
  refine w_if_eq rfl (fun _ => ?_) (fun h => absurd (by decide) h)
  refine w_aload rfl rfl ?_
  refine w_pushI rfl ?_
  refine w_putI rfl rfl ?_
  refine w_iload rfl rfl ?_
  refine w_if_eq rfl (fun _ => ?_) (fun h => absurd (by decide) h)
  refine w_pushI rfl ?_
  refine w_aload rfl rfl ?_
  refine w_getIv (x := 0) rfl rfl ((gU_n (by decide)).trans ((gU_n (by decide)).trans (gU_e))) ?_
  refine w_isubv (z := (-100)) rfl (by decide) ?_
  refine w_iret rfl (Or.inl rfl) ?_
  show gW _ _ _ _ _ _ _ _ _ _
  refine w_iret rfl (Or.inl rfl) ?_
  exact ⟨congrArg (fun v => some (Value.int v)) (show ((-100) : Int32) = f1_law  by exact rfl), rfl, fun x hx => (gU_o (by omega)).trans ((gU_o (by omega)).trans (gU_o (by omega))), fun x hx => rfl, fun x hx => rfl⟩
set_option maxHeartbeats 40000000 in
set_option maxRecDepth 100000 in
theorem a2_law {X : Nat × (Nat → Int32)} {d : Nat} {I : Nat → Nat → Int32} {L : Nat → Nat → Int64} {R : Nat → Nat → Option Nat} (hI : ∀ q ∈ gFlI, 50 ≤ q.1 → I q.1 q.2.1 = q.2.2) (hL : ∀ q ∈ gFlL, 50 ≤ q.1 → L q.1 q.2.1 = q.2.2) (hR : ∀ q ∈ gFlR, 50 ≤ q.1 → R q.1 q.2.1 = some q.2.2)  : gW X (d + 12) 182 0 0 0 (gEn 182 [.ref 50]) [] (gK 87, I, L, R) (fun r _ => r = some (.int (f1_law ))) := by
  show gW _ _ _ _ _ _ [some (.ref 50), none] _ _ _
  refine w_aload rfl rfl ?_
  refine w_pushI rfl ?_
  refine w_callVi (As := [_]) (le := [some _, some _, none]) rfl rfl rfl (Nat.le_of_ble_eq_true rfl) (Nat.le_of_ble_eq_true rfl) rfl ?_
  refine w_aload rfl rfl ?_
  refine w_pushI rfl ?_
  refine w_putI rfl rfl ?_
  refine w_aload rfl rfl ?_
  refine w_pushI rfl ?_
  refine w_putI rfl rfl ?_
  refine w_aload rfl rfl ?_
  refine w_pushI rfl ?_
  refine w_putI rfl rfl ?_
  refine w_aload rfl rfl ?_
  refine w_pushI rfl ?_
  refine w_putI rfl rfl ?_
  refine w_aload rfl rfl ?_
  refine w_getR (r := 64) rfl rfl (hR _ fmR_50_22 (by decide)) ?_
  refine w_pushI rfl ?_
  refine w_pushI rfl ?_
  refine w_iastv (j := 1) rfl rfl (by decide) (by unfold vp_in; decide) rfl ?_
  refine w_aload rfl rfl ?_
  refine w_callVi (As := []) (le := [some _, none]) rfl rfl rfl (Nat.le_of_ble_eq_true rfl) (Nat.le_of_ble_eq_true rfl) rfl ?_
  refine w_pushI rfl ?_
  refine w_aload rfl rfl ?_
  refine w_getR (r := 64) rfl rfl (hR _ fmR_50_22 (by decide)) ?_
  refine w_pushI rfl ?_
  refine w_ialdv (j := 1) (x := 0) rfl rfl (by decide) (by unfold vp_in; decide) (gU_e) ?_
  refine w_iaddv (z := 61) rfl (by decide) ?_
  refine w_istore rfl rfl ?_
  refine w_aload rfl rfl ?_
  refine w_getR (r := 65) rfl rfl (hR _ fmR_50_23 (by decide)) ?_
  refine w_iload rfl rfl ?_
  refine w_aload rfl rfl ?_
  refine w_getIv (x := 0) rfl rfl ((gU_n (by decide)).trans (gU_e)) ?_
  refine w_i2sv (z := 0) rfl (by decide +kernel) ?_
  refine w_hastv (j := 61) (z := 0) rfl rfl (by decide) (by unfold vp_in; decide) (by decide) ?_
  refine w_aload rfl rfl ?_
  refine w_callVi (As := []) (le := [some _]) rfl rfl rfl (Nat.le_of_ble_eq_true rfl) (Nat.le_of_ble_eq_true rfl) rfl ?_
  refine w_aload rfl rfl ?_
  refine w_callVi (As := []) (le := [some _]) rfl rfl rfl (Nat.le_of_ble_eq_true rfl) (Nat.le_of_ble_eq_true rfl) rfl ?_
  refine w_aload rfl rfl ?_
  refine w_callVi (As := []) (le := [some _, none]) rfl rfl rfl (Nat.le_of_ble_eq_true rfl) (Nat.le_of_ble_eq_true rfl) rfl ?_
  refine w_aload rfl rfl ?_
  refine w_callVi (As := []) (le := [some _, none]) rfl rfl rfl (Nat.le_of_ble_eq_true rfl) (Nat.le_of_ble_eq_true rfl) rfl ?_
  refine w_aload rfl rfl ?_
  refine w_callVi (As := []) (le := [some _, none]) rfl rfl rfl (Nat.le_of_ble_eq_true rfl) (Nat.le_of_ble_eq_true rfl) rfl ?_
  refine w_aload rfl rfl ?_
  refine w_callVi (As := []) (le := [some _, none]) rfl rfl rfl (Nat.le_of_ble_eq_true rfl) (Nat.le_of_ble_eq_true rfl) rfl ?_
  refine w_aload rfl rfl ?_
  refine w_callVi (As := []) (le := [some _]) rfl rfl rfl (Nat.le_of_ble_eq_true rfl) (Nat.le_of_ble_eq_true rfl) rfl ?_
  refine w_aload rfl rfl ?_
  refine w_getIv (x := 0) rfl rfl ((gU_n (by decide)).trans ((gU_n (by decide)).trans ((gU_n (by decide)).trans ((gU_n (by decide)).trans ((gU_n (by decide)).trans (gU_e)))))) ?_
  refine w_aload rfl rfl ?_
  refine w_getIv (x := 0) rfl rfl ((gU_n (by decide)).trans ((gU_n (by decide)).trans ((gU_n (by decide)).trans ((gU_n (by decide)).trans ((gU_n (by decide)).trans ((gU_n (by decide)).trans (hI _ fmI_50_15 (by decide)))))))) ?_
  refine w_icmp_ge rfl (fun _ => ?_) (fun h => absurd (by decide) h)
  refine w_pushI rfl ?_
  refine w_iret rfl (Or.inl rfl) ?_
  show gW _ _ _ _ _ _ _ _ _ _
  refine w_istore rfl rfl ?_
  refine w_iload rfl rfl ?_
  refine w_callSi (As := [_]) (le := [some _]) rfl rfl (Nat.le_of_ble_eq_true rfl) (Nat.le_of_ble_eq_true rfl) rfl ?_
  refine w_iload rfl rfl ?_
  refine w_swO (x := (-1)) rfl (show ∀ q ∈ [((99 : Int32), 80), ((100 : Int32), 74), ((101 : Int32), 84), ((102 : Int32), 84), ((103 : Int32), 84), ((104 : Int32), 72), ((105 : Int32), 84), ((106 : Int32), 84), ((107 : Int32), 76), ((108 : Int32), 84), ((109 : Int32), 78), ((110 : Int32), 84), ((111 : Int32), 84), ((112 : Int32), 82)], ¬ ((-1) : Int32) = q.1 by decide) ?_
  refine w_pushI rfl ?_
  refine w_iret rfl (Or.inl rfl) ?_
  show gW _ _ _ _ _ _ _ _ _ _
  refine w_if_lt rfl (fun _ => ?_) (fun h => absurd (by decide) h)
  refine w_iload rfl rfl ?_
  refine w_pushI rfl ?_
  refine w_icmp_eq rfl (fun h => absurd h (by decide)) (fun _ => ?_)
  refine w_iload rfl rfl ?_
  refine w_pushI rfl ?_
  refine w_icmp_ne rfl (fun _ => ?_) (fun h => absurd h (by decide))
  refine w_iload rfl rfl ?_
  refine w_pushI rfl ?_
  refine w_icmp_ne rfl (fun _ => ?_) (fun h => absurd h (by decide))
  refine w_aload rfl rfl ?_
  refine w_callVi (As := []) (le := [some _, none, none]) rfl rfl rfl (Nat.le_of_ble_eq_true rfl) (Nat.le_of_ble_eq_true rfl) rfl ?_
  refine w_pushI rfl ?_
  refine w_istore rfl rfl ?_
  refine w_pushI rfl ?_
  refine w_istore rfl rfl ?_
  refine w_iload rfl rfl ?_
  refine w_pushI rfl ?_
  refine w_icmp_ge rfl (fun h => absurd h (by decide)) (fun _ => ?_)
  refine w_aload rfl rfl ?_
  refine w_callVi (As := []) (le := [some _]) rfl rfl rfl (Nat.le_of_ble_eq_true rfl) (Nat.le_of_ble_eq_true rfl) rfl ?_
  refine w_aload rfl rfl ?_
  refine w_getIv (x := 0) rfl rfl ((gU_n (by decide)).trans ((gU_n (by decide)).trans ((gU_n (by decide)).trans ((gU_n (by decide)).trans ((gU_n (by decide)).trans (gU_e)))))) ?_
  refine w_aload rfl rfl ?_
  refine w_getIv (x := 0) rfl rfl ((gU_n (by decide)).trans ((gU_n (by decide)).trans ((gU_n (by decide)).trans ((gU_n (by decide)).trans ((gU_n (by decide)).trans ((gU_n (by decide)).trans (hI _ fmI_50_15 (by decide)))))))) ?_
  refine w_icmp_ge rfl (fun _ => ?_) (fun h => absurd (by decide) h)
  refine w_pushI rfl ?_
  refine w_iret rfl (Or.inl rfl) ?_
  show gW _ _ _ _ _ _ _ _ _ _
  refine w_pushI rfl ?_
  refine w_pushI rfl ?_
  refine w_callSi (As := [_, _, _]) (le := [some _, some _, some _]) rfl rfl (Nat.le_of_ble_eq_true rfl) (Nat.le_of_ble_eq_true rfl) rfl ?_
  refine w_iload rfl rfl ?_
  refine w_iload rfl rfl ?_
  refine w_icmp_lt rfl (fun _ => ?_) (fun h => absurd (by decide) h)
  refine w_pushI rfl ?_
  refine w_iret rfl (Or.inr ⟨rfl, by decide⟩) ?_
  show gW _ _ _ _ _ _ _ _ _ _
  refine w_if_eq rfl (fun _ => ?_) (fun h => absurd (by decide) h)
  refine w_iload rfl rfl ?_
  refine w_if_eq rfl (fun _ => ?_) (fun h => absurd (by decide) h)
  refine w_aload rfl rfl ?_
  refine w_callVi (As := []) (le := [some _]) rfl rfl rfl (Nat.le_of_ble_eq_true rfl) (Nat.le_of_ble_eq_true rfl) rfl ?_
  refine w_aload rfl rfl ?_
  refine w_getIv (x := (-1)) rfl rfl ((gU_n (by decide)).trans ((gU_n (by decide)).trans ((gU_n (by decide)).trans ((gU_n (by decide)).trans (gU_e))))) ?_
  refine w_if_ge rfl (fun h => absurd h (by decide)) (fun _ => ?_)
  refine w_aload rfl rfl ?_
  refine w_aload rfl rfl ?_
  refine w_getIv (x := 0) rfl rfl ((gU_n (by decide)).trans ((gU_n (by decide)).trans ((gU_n (by decide)).trans ((gU_n (by decide)).trans ((gU_n (by decide)).trans (gU_e)))))) ?_
  refine w_putI rfl rfl ?_
  refine w_vret rfl rfl ?_
  show gW _ _ _ _ _ _ _ _ _ _
  refine w_aload rfl rfl ?_
  refine w_pushI rfl ?_
  refine w_iload rfl rfl ?_
  refine w_callVi (As := [_, _]) (le := [some _, some _, some _]) rfl rfl rfl (Nat.le_of_ble_eq_true rfl) (Nat.le_of_ble_eq_true rfl) rfl ?_
  refine w_aload rfl rfl ?_
  refine w_getR (r := 62) rfl rfl (hR _ fmR_50_20 (by decide)) ?_
  refine w_pushI rfl ?_
  refine w_aload rfl rfl ?_
  refine w_getIv (x := 0) rfl rfl ((gU_n (by decide)).trans ((gU_n (by decide)).trans ((gU_n (by decide)).trans (gU_e)))) ?_
  refine w_iaddv (z := 130) rfl (by decide) ?_
  refine w_iload rfl rfl ?_
  refine w_i2bv (z := 1) rfl (by decide +kernel) ?_
  refine w_bastv (j := 130) (z := 1) rfl rfl (by decide) (by unfold vp_in; decide) (by decide) ?_
  refine w_aload rfl rfl ?_
  refine w_getR (r := 63) rfl rfl (hR _ fmR_50_21 (by decide)) ?_
  refine w_pushI rfl ?_
  refine w_aload rfl rfl ?_
  refine w_getIv (x := 0) rfl rfl ((gU_n (by decide)).trans ((gU_n (by decide)).trans ((gU_n (by decide)).trans ((gU_n (by decide)).trans (gU_e))))) ?_
  refine w_iaddv (z := 130) rfl (by decide) ?_
  refine w_iload rfl rfl ?_
  refine w_iastv (j := 130) rfl rfl (by decide) (by unfold vp_in; decide) rfl ?_
  refine w_aload rfl rfl ?_
  refine w_dup rfl rfl ?_
  refine w_getIv (x := 0) rfl rfl ((gU_n (by decide)).trans ((gU_n (by decide)).trans ((gU_n (by decide)).trans ((gU_n (by decide)).trans ((gU_n (by decide)).trans (gU_e)))))) ?_
  refine w_pushI rfl ?_
  refine w_iaddv (z := 1) rfl (by decide) ?_
  refine w_putI rfl rfl ?_
  refine w_vret rfl rfl ?_
  show gW _ _ _ _ _ _ _ _ _ _
  refine w_vret rfl rfl ?_
  show gW _ _ _ _ _ _ _ _ _ _
  refine w_vret rfl rfl ?_
  show gW _ _ _ _ _ _ _ _ _ _
  refine w_aload rfl rfl ?_
  refine w_getIv (x := 0) rfl rfl ((gU_n (by decide)).trans ((gU_n (by decide)).trans ((gU_n (by decide)).trans (gU_e)))) ?_
  refine w_if_ge rfl (fun _ => ?_) (fun h => absurd (by decide) h)
  refine w_vret rfl rfl ?_
  show gW _ _ _ _ _ _ _ _ _ _
  refine w_aload rfl rfl ?_
  refine w_getIv (x := 0) rfl rfl ((gU_n (by decide)).trans ((gU_n (by decide)).trans ((gU_n (by decide)).trans (gU_e)))) ?_
  refine w_if_ge rfl (fun _ => ?_) (fun h => absurd (by decide) h)
  refine w_vret rfl rfl ?_
  show gW _ _ _ _ _ _ _ _ _ _
  refine w_aload rfl rfl ?_
  refine w_callVi (As := []) (le := [some _]) rfl rfl rfl (Nat.le_of_ble_eq_true rfl) (Nat.le_of_ble_eq_true rfl) rfl ?_
  refine w_aload rfl rfl ?_
  refine w_getIv (x := 0) rfl rfl ((gU_n (by decide)).trans ((gU_n (by decide)).trans ((gU_n (by decide)).trans ((gU_n (by decide)).trans ((gU_n (by decide)).trans ((gU_n (by decide)).trans ((gU_n (by decide)).trans ((gU_n (by decide)).trans ((gU_n (by decide)).trans (gU_e)))))))))) ?_
  refine w_aload rfl rfl ?_
  refine w_getIv (x := 0) rfl rfl ((gU_n (by decide)).trans ((gU_n (by decide)).trans ((gU_n (by decide)).trans ((gU_n (by decide)).trans ((gU_n (by decide)).trans ((gU_n (by decide)).trans ((gU_n (by decide)).trans ((gU_n (by decide)).trans ((gU_n (by decide)).trans ((gU_n (by decide)).trans (hI _ fmI_50_15 (by decide)))))))))))) ?_
  refine w_icmp_ge rfl (fun _ => ?_) (fun h => absurd (by decide) h)
  refine w_pushI rfl ?_
  refine w_iret rfl (Or.inl rfl) ?_
  show gW _ _ _ _ _ _ _ _ _ _
  refine w_istore rfl rfl ?_
  refine w_aload rfl rfl ?_
  refine w_getIv (x := 0) rfl rfl ((gU_n (by decide)).trans ((gU_n (by decide)).trans ((gU_n (by decide)).trans (gU_e)))) ?_
  refine w_if_ge rfl (fun _ => ?_) (fun h => absurd (by decide) h)
  refine w_vret rfl rfl ?_
  show gW _ _ _ _ _ _ _ _ _ _
  refine w_aload rfl rfl ?_
  refine w_getIv (x := 0) rfl rfl ((gU_n (by decide)).trans ((gU_n (by decide)).trans ((gU_n (by decide)).trans (gU_e)))) ?_
  refine w_if_ge rfl (fun _ => ?_) (fun h => absurd (by decide) h)
  refine w_vret rfl rfl ?_
  show gW _ _ _ _ _ _ _ _ _ _
  refine w_aload rfl rfl ?_
  refine w_getIv (x := 0) rfl rfl ((gU_n (by decide)).trans ((gU_n (by decide)).trans ((gU_n (by decide)).trans (gU_e)))) ?_
  refine w_if_ge rfl (fun _ => ?_) (fun h => absurd (by decide) h)
  refine w_vret rfl rfl ?_
  show gW _ _ _ _ _ _ _ _ _ _
  refine w_aload rfl rfl ?_
  refine w_getIv (x := 0) rfl rfl ((gU_n (by decide)).trans ((gU_n (by decide)).trans ((gU_n (by decide)).trans (gU_e)))) ?_
  refine w_if_ge rfl (fun _ => ?_) (fun h => absurd (by decide) h)
  refine w_aload rfl rfl ?_
  refine w_getR (r := 66) rfl rfl (hR _ fmR_50_24 (by decide)) ?_
  refine w_iload rfl rfl ?_
  refine w_aload rfl rfl ?_
  refine w_getIv (x := 1) rfl rfl (gU_e) ?_
  refine w_i2sv (z := 1) rfl (by decide +kernel) ?_
  refine w_hastv (j := 61) (z := 1) rfl rfl (by decide) (by unfold vp_in; decide) (by decide) ?_
  refine w_aload rfl rfl ?_
  refine w_getR (r := 64) rfl rfl (hR _ fmR_50_22 (by decide)) ?_
  refine w_pushI rfl ?_
  refine w_dup2 rfl rfl rfl ?_
  refine w_ialdv (j := 1) (x := 0) rfl rfl (by decide) (by unfold vp_in; decide) ((gU_n (by decide)).trans ((gU_n (by decide)).trans ((gU_n (by decide)).trans ((gU_n (by decide)).trans ((gU_n (by decide)).trans ((gU_n (by decide)).trans (gU_e))))))) ?_
  refine w_pushI rfl ?_
  refine w_iaddv (z := 1) rfl (by decide) ?_
  refine w_iastv (j := 1) rfl rfl (by decide) (by unfold vp_in; decide) rfl ?_
  refine w_vret rfl rfl ?_
  show gW _ _ _ _ _ _ _ _ _ _
  refine w_aload rfl rfl ?_
  refine w_getIv (x := 0) rfl rfl ((gU_n (by decide)).trans ((gU_n (by decide)).trans ((gU_n (by decide)).trans ((gU_n (by decide)).trans ((gU_n (by decide)).trans (gU_e)))))) ?_
  refine w_if_ge rfl (fun _ => ?_) (fun h => absurd (by decide) h)
  refine w_aload rfl rfl ?_
  refine w_getIv (x := 0) rfl rfl ((gU_n (by decide)).trans ((gU_n (by decide)).trans ((gU_n (by decide)).trans ((gU_n (by decide)).trans ((gU_n (by decide)).trans (gU_e)))))) ?_
  refine w_if_ge rfl (fun _ => ?_) (fun h => absurd (by decide) h)
  refine w_aload rfl rfl ?_
  refine w_pushI rfl ?_
  refine w_putI rfl rfl ?_
  refine w_aload rfl rfl ?_
  refine w_getIv (x := 0) rfl rfl ((gU_n (by decide)).trans ((gU_n (by decide)).trans ((gU_n (by decide)).trans ((gU_n (by decide)).trans ((gU_n (by decide)).trans ((gU_n (by decide)).trans (gU_e))))))) ?_
  refine w_if_lt rfl (fun h => absurd h (by decide)) (fun _ => ?_)
  refine w_aload rfl rfl ?_
  refine w_getIv (x := 0) rfl rfl ((gU_n (by decide)).trans ((gU_n (by decide)).trans ((gU_n (by decide)).trans ((gU_n (by decide)).trans ((gU_n (by decide)).trans ((gU_n (by decide)).trans (gU_e))))))) ?_
  refine w_iret rfl (Or.inl rfl) ?_
  show gW _ _ _ _ _ _ _ _ _ _
  refine w_istore rfl rfl ?_
  refine w_iload rfl rfl ?_
  refine w_if_lt rfl (fun h => absurd h (by decide)) (fun _ => ?_)
  refine w_pushI rfl ?_
  refine w_iload rfl rfl ?_
  refine w_isubv (z := (-100)) rfl (by decide) ?_
  refine w_iret rfl (Or.inl rfl) ?_
  exact congrArg (fun v => some (Value.int v)) (show ((-100) : Int32) = f1_law  by exact rfl)
set_option maxHeartbeats 40000000 in
set_option maxRecDepth 100000 in
theorem a1_hears {X : Nat × (Nat → Int32)} {d : Nat} {I : Nat → Nat → Int32} {L : Nat → Nat → Int64} {R : Nat → Nat → Option Nat} (hI : ∀ q ∈ gFlI, I q.1 q.2.1 = q.2.2) (hL : ∀ q ∈ gFlL, L q.1 q.2.1 = q.2.2) (hR : ∀ q ∈ gFlR, R q.1 q.2.1 = some q.2.2) (a : Int32) (b : Int32) : gW X (d + 12) 108 0 0 0 (gEn 108 [.ref 0, .int a, .int b]) [] (gK 87, I, L, R) (fun r σ => r = some (.int (f1_hears a b)) ∧ gFr σ I L R) := by
  show gW _ _ _ _ _ _ [some (.ref 0), some (.int a), some (.int b)] _ _ _
  refine w_aload rfl rfl ?_
  refine w_getR (r := 8) rfl rfl (hR _ fmR_0_1) ?_
  refine w_iload rfl rfl ?_
  refine w_callVi (As := [_]) (le := [some _, some _]) rfl rfl rfl (Nat.le_of_ble_eq_true rfl) (Nat.le_of_ble_eq_true rfl) rfl ?_
  refine w_iload rfl rfl ?_
  refine w_if_ltZ rfl rfl (fun h1 => ?_) (fun h1 => ?_)
  · refine w_pushI rfl ?_
    refine w_iret rfl (Or.inr ⟨rfl, by decide⟩) ?_
    show gW _ _ _ _ _ _ _ _ _ _
    refine w_if_eq rfl (fun _ => ?_) (fun h => absurd (by decide) h)
    refine w_pushI rfl ?_
    refine w_iret rfl (Or.inl rfl) ?_
    exact ⟨congrArg (fun v => some (Value.int v)) (show ((-1) : Int32) = f1_hears a b by exact rfl), rfl, fun x hx => rfl, fun x hx => rfl, fun x hx => rfl⟩
  · refine w_iload rfl rfl ?_
    refine w_aload rfl rfl ?_
    refine w_getIv (x := 0) rfl rfl (hI _ fmI_8_2) ?_
    refine w_icmp_geZ (b := 0) rfl rfl (by decide) (fun h2 => ?_) (fun h2 => by exfalso; omega)
    refine w_pushI rfl ?_
    refine w_iret rfl (Or.inr ⟨rfl, by decide⟩) ?_
    show gW _ _ _ _ _ _ _ _ _ _
    refine w_if_eq rfl (fun _ => ?_) (fun h => absurd (by decide) h)
    refine w_pushI rfl ?_
    refine w_iret rfl (Or.inl rfl) ?_
    exact ⟨congrArg (fun v => some (Value.int v)) (show ((-1) : Int32) = f1_hears a b by exact rfl), rfl, fun x hx => rfl, fun x hx => rfl, fun x hx => rfl⟩
set_option maxHeartbeats 40000000 in
set_option maxRecDepth 100000 in
theorem a2_hears {X : Nat × (Nat → Int32)} {d : Nat} {I : Nat → Nat → Int32} {L : Nat → Nat → Int64} {R : Nat → Nat → Option Nat} (hI : ∀ q ∈ gFlI, 50 ≤ q.1 → I q.1 q.2.1 = q.2.2) (hL : ∀ q ∈ gFlL, 50 ≤ q.1 → L q.1 q.2.1 = q.2.2) (hR : ∀ q ∈ gFlR, 50 ≤ q.1 → R q.1 q.2.1 = some q.2.2) (a : Int32) (b : Int32) : gW X (d + 12) 184 0 0 0 (gEn 184 [.ref 50, .int a, .int b]) [] (gK 87, I, L, R) (fun r _ => r = some (.int (f1_hears a b))) := by
  show gW _ _ _ _ _ _ [some (.ref 50), some (.int a), some (.int b)] _ _ _
  refine w_aload rfl rfl ?_
  refine w_iload rfl rfl ?_
  refine w_callVi (As := [_]) (le := [some _, some _]) rfl rfl rfl (Nat.le_of_ble_eq_true rfl) (Nat.le_of_ble_eq_true rfl) rfl ?_
  refine w_iload rfl rfl ?_
  refine w_pushI rfl ?_
  refine w_aload rfl rfl ?_
  refine w_getIv (x := 0) rfl rfl (hI _ fmI_50_1 (by decide)) ?_
  refine w_pushI rfl ?_
  refine w_isubv (z := (-1)) rfl (by decide) ?_
  refine w_callSi (As := [_, _, _]) (le := [some _, some _, some _]) rfl rfl (Nat.le_of_ble_eq_true rfl) (Nat.le_of_ble_eq_true rfl) rfl ?_
  refine w_iload rfl rfl ?_
  refine w_iload rfl rfl ?_
  refine w_icmp_ltZ (b := 0) rfl rfl (by decide) (fun h1 => ?_) (fun h1 => ?_)
  · refine w_pushI rfl ?_
    refine w_iret rfl (Or.inr ⟨rfl, by decide⟩) ?_
    show gW _ _ _ _ _ _ _ _ _ _
    refine w_iret rfl (Or.inr ⟨rfl, by decide⟩) ?_
    show gW _ _ _ _ _ _ _ _ _ _
    refine w_if_eq rfl (fun _ => ?_) (fun h => absurd (by decide) h)
    refine w_pushI rfl ?_
    refine w_iret rfl (Or.inl rfl) ?_
    exact congrArg (fun v => some (Value.int v)) (show ((-1) : Int32) = f1_hears a b by exact rfl)
  · refine w_iload rfl rfl ?_
    refine w_iload rfl rfl ?_
    refine w_icmp_gtZ (b := (-1)) rfl rfl (by decide) (fun h2 => ?_) (fun h2 => by exfalso; omega)
    refine w_pushI rfl ?_
    refine w_iret rfl (Or.inr ⟨rfl, by decide⟩) ?_
    show gW _ _ _ _ _ _ _ _ _ _
    refine w_iret rfl (Or.inr ⟨rfl, by decide⟩) ?_
    show gW _ _ _ _ _ _ _ _ _ _
    refine w_if_eq rfl (fun _ => ?_) (fun h => absurd (by decide) h)
    refine w_pushI rfl ?_
    refine w_iret rfl (Or.inl rfl) ?_
    exact congrArg (fun v => some (Value.int v)) (show ((-1) : Int32) = f1_hears a b by exact rfl)
set_option maxHeartbeats 40000000 in
set_option maxRecDepth 100000 in
theorem a1_round {X : Nat × (Nat → Int32)} {d : Nat} {I : Nat → Nat → Int32} {L : Nat → Nat → Int64} {R : Nat → Nat → Option Nat} (hI : ∀ q ∈ gFlI, I q.1 q.2.1 = q.2.2) (hL : ∀ q ∈ gFlL, L q.1 q.2.1 = q.2.2) (hR : ∀ q ∈ gFlR, R q.1 q.2.1 = some q.2.2) (a : Int32) (b : Int32) : gW X (d + 12) 109 0 0 0 (gEn 109 [.ref 0, .int a, .int b]) [] (gK 87, I, L, R) (fun r σ => r = some (.int (f1_round a b)) ∧ gFr σ I L R) := by
  show gW _ _ _ _ _ _ [some (.ref 0), some (.int a), some (.int b), none] _ _ _
  refine w_iload rfl rfl ?_
  refine w_callSi (As := [_]) (le := [some _]) rfl rfl (Nat.le_of_ble_eq_true rfl) (Nat.le_of_ble_eq_true rfl) rfl ?_
  refine w_iload rfl rfl ?_
  refine w_if_ltZ rfl rfl (fun h1 => ?_) (fun h1 => ?_)
  · refine w_pushI rfl ?_
    refine w_iret rfl (Or.inr ⟨rfl, by decide⟩) ?_
    show gW _ _ _ _ _ _ _ _ _ _
    refine w_if_eq rfl (fun _ => ?_) (fun h => absurd (by decide) h)
    refine w_pushI rfl ?_
    refine w_iret rfl (Or.inl rfl) ?_
    exact ⟨congrArg (fun v => some (Value.int v)) (show ((-1) : Int32) = f1_round a b by exact ite_eq_of (fun hc => absurd hc (by omega)) (fun _ => rfl)), rfl, fun x hx => rfl, fun x hx => rfl, fun x hx => rfl⟩
  · refine w_iload rfl rfl ?_
    refine w_pushI rfl ?_
    refine w_icmp_geZ (b := 6) rfl rfl (by decide) (fun h2 => ?_) (fun h2 => ?_)
    · refine w_pushI rfl ?_
      refine w_iret rfl (Or.inr ⟨rfl, by decide⟩) ?_
      show gW _ _ _ _ _ _ _ _ _ _
      refine w_if_eq rfl (fun _ => ?_) (fun h => absurd (by decide) h)
      refine w_pushI rfl ?_
      refine w_iret rfl (Or.inl rfl) ?_
      exact ⟨congrArg (fun v => some (Value.int v)) (show ((-1) : Int32) = f1_round a b by exact ite_eq_of (fun hc => absurd hc (by omega)) (fun _ => rfl)), rfl, fun x hx => rfl, fun x hx => rfl, fun x hx => rfl⟩
    · refine w_pushI rfl ?_
      refine w_goto rfl ?_
      refine w_iret rfl (Or.inr ⟨rfl, by decide⟩) ?_
      show gW _ _ _ _ _ _ _ _ _ _
      refine w_if_eq rfl (fun h => absurd h (by decide)) (fun _ => ?_)
      refine w_iload rfl rfl ?_
      refine w_pushI rfl ?_
      refine w_icmp_ltZ (b := (-3)) rfl rfl (by decide) (fun h3 => ?_) (fun h3 => ?_)
      · refine w_pushI rfl ?_
        refine w_iret rfl (Or.inl rfl) ?_
        exact ⟨congrArg (fun v => some (Value.int v)) (show ((-1) : Int32) = f1_round a b by exact ite_eq_of (fun hc => absurd hc (by omega)) (fun _ => rfl)), rfl, fun x hx => rfl, fun x hx => rfl, fun x hx => rfl⟩
      · refine w_iload rfl rfl ?_
        refine w_aload rfl rfl ?_
        refine w_getR (r := 8) rfl rfl (hR _ fmR_0_1) ?_
        refine w_getIv (x := 0) rfl rfl (hI _ fmI_8_2) ?_
        refine w_icmp_ltZ (b := 0) rfl rfl (by decide) (fun h4 => ?_) (fun h4 => ?_)
        · refine w_aload rfl rfl ?_
          refine w_getR (r := 10) rfl rfl (hR _ fmR_0_2) ?_
          refine w_aload rfl rfl ?_
          refine w_getR (r := 37) rfl rfl (hR _ fmR_0_11) ?_
          refine w_iload rfl rfl ?_
          rcases (show a.toInt = 0 ∨ a.toInt = 1 ∨ a.toInt = 2 ∨ a.toInt = 3 ∨ a.toInt = 4 ∨ a.toInt = 5 by omega) with hs5 | hs5 | hs5 | hs5 | hs5 | hs5
          · obtain rfl : a = 0 := i_is hs5 (by decide)
            refine w_aaldv (j := 0) (r := 38) rfl rfl (by decide) (by unfold vp_in; decide) (hR _ fmR_37_0) ?_
            refine w_callVi (As := [_]) (le := [some _, some _, none, none, none]) rfl rfl rfl (Nat.le_of_ble_eq_true rfl) (Nat.le_of_ble_eq_true rfl) rfl ?_
            refine w_aload rfl rfl ?_
            refine w_callVi (As := []) (le := [some _]) rfl rfl rfl (Nat.le_of_ble_eq_true rfl) (Nat.le_of_ble_eq_true rfl) rfl ?_
            refine w_aload rfl rfl ?_
            refine w_getIv (x := 0) rfl rfl (hI _ fmI_38_0) ?_
            refine w_if_ne rfl (fun h => absurd (by decide) h) (fun _ => ?_)
            refine w_pushI rfl ?_
            refine w_iret rfl (Or.inl rfl) ?_
            show gW _ _ _ _ _ _ _ _ _ _
            refine w_istore rfl rfl ?_
            refine w_iload rfl rfl ?_
            refine w_if_ge rfl (fun h => absurd h (by decide)) (fun _ => ?_)
            refine w_iload rfl rfl ?_
            refine w_iret rfl (Or.inl rfl) ?_
            show gW _ _ _ _ _ _ _ _ _ _
            refine w_istore rfl rfl ?_
            refine w_iload rfl rfl ?_
            refine w_if_ge rfl (fun h => absurd h (by decide)) (fun _ => ?_)
            refine w_iload rfl rfl ?_
            refine w_iret rfl (Or.inl rfl) ?_
            exact ⟨congrArg (fun v => some (Value.int v)) (show ((-11) : Int32) = f1_round (0) b by have e0 : (0 : Int32).toInt = 0 := rfl; exact ite_eq_of (fun _ => rfl) (fun hc => absurd (by omega) hc)), rfl, fun x hx => rfl, fun x hx => rfl, fun x hx => rfl⟩
          · obtain rfl : a = 1 := i_is hs5 (by decide)
            refine w_aaldv (j := 1) (r := 40) rfl rfl (by decide) (by unfold vp_in; decide) (hR _ fmR_37_1) ?_
            refine w_callVi (As := [_]) (le := [some _, some _, none, none, none]) rfl rfl rfl (Nat.le_of_ble_eq_true rfl) (Nat.le_of_ble_eq_true rfl) rfl ?_
            refine w_aload rfl rfl ?_
            refine w_callVi (As := []) (le := [some _]) rfl rfl rfl (Nat.le_of_ble_eq_true rfl) (Nat.le_of_ble_eq_true rfl) rfl ?_
            refine w_aload rfl rfl ?_
            refine w_getIv (x := 0) rfl rfl (hI _ fmI_40_0) ?_
            refine w_if_ne rfl (fun h => absurd (by decide) h) (fun _ => ?_)
            refine w_pushI rfl ?_
            refine w_iret rfl (Or.inl rfl) ?_
            show gW _ _ _ _ _ _ _ _ _ _
            refine w_istore rfl rfl ?_
            refine w_iload rfl rfl ?_
            refine w_if_ge rfl (fun h => absurd h (by decide)) (fun _ => ?_)
            refine w_iload rfl rfl ?_
            refine w_iret rfl (Or.inl rfl) ?_
            show gW _ _ _ _ _ _ _ _ _ _
            refine w_istore rfl rfl ?_
            refine w_iload rfl rfl ?_
            refine w_if_ge rfl (fun h => absurd h (by decide)) (fun _ => ?_)
            refine w_iload rfl rfl ?_
            refine w_iret rfl (Or.inl rfl) ?_
            exact ⟨congrArg (fun v => some (Value.int v)) (show ((-11) : Int32) = f1_round (1) b by have e0 : (1 : Int32).toInt = 1 := rfl; exact ite_eq_of (fun _ => rfl) (fun hc => absurd (by omega) hc)), rfl, fun x hx => rfl, fun x hx => rfl, fun x hx => rfl⟩
          · obtain rfl : a = 2 := i_is hs5 (by decide)
            refine w_aaldv (j := 2) (r := 42) rfl rfl (by decide) (by unfold vp_in; decide) (hR _ fmR_37_2) ?_
            refine w_callVi (As := [_]) (le := [some _, some _, none, none, none]) rfl rfl rfl (Nat.le_of_ble_eq_true rfl) (Nat.le_of_ble_eq_true rfl) rfl ?_
            refine w_aload rfl rfl ?_
            refine w_callVi (As := []) (le := [some _]) rfl rfl rfl (Nat.le_of_ble_eq_true rfl) (Nat.le_of_ble_eq_true rfl) rfl ?_
            refine w_aload rfl rfl ?_
            refine w_getIv (x := 0) rfl rfl (hI _ fmI_42_0) ?_
            refine w_if_ne rfl (fun h => absurd (by decide) h) (fun _ => ?_)
            refine w_pushI rfl ?_
            refine w_iret rfl (Or.inl rfl) ?_
            show gW _ _ _ _ _ _ _ _ _ _
            refine w_istore rfl rfl ?_
            refine w_iload rfl rfl ?_
            refine w_if_ge rfl (fun h => absurd h (by decide)) (fun _ => ?_)
            refine w_iload rfl rfl ?_
            refine w_iret rfl (Or.inl rfl) ?_
            show gW _ _ _ _ _ _ _ _ _ _
            refine w_istore rfl rfl ?_
            refine w_iload rfl rfl ?_
            refine w_if_ge rfl (fun h => absurd h (by decide)) (fun _ => ?_)
            refine w_iload rfl rfl ?_
            refine w_iret rfl (Or.inl rfl) ?_
            exact ⟨congrArg (fun v => some (Value.int v)) (show ((-11) : Int32) = f1_round (2) b by have e0 : (2 : Int32).toInt = 2 := rfl; exact ite_eq_of (fun _ => rfl) (fun hc => absurd (by omega) hc)), rfl, fun x hx => rfl, fun x hx => rfl, fun x hx => rfl⟩
          · obtain rfl : a = 3 := i_is hs5 (by decide)
            refine w_aaldv (j := 3) (r := 44) rfl rfl (by decide) (by unfold vp_in; decide) (hR _ fmR_37_3) ?_
            refine w_callVi (As := [_]) (le := [some _, some _, none, none, none]) rfl rfl rfl (Nat.le_of_ble_eq_true rfl) (Nat.le_of_ble_eq_true rfl) rfl ?_
            refine w_aload rfl rfl ?_
            refine w_callVi (As := []) (le := [some _]) rfl rfl rfl (Nat.le_of_ble_eq_true rfl) (Nat.le_of_ble_eq_true rfl) rfl ?_
            refine w_aload rfl rfl ?_
            refine w_getIv (x := 0) rfl rfl (hI _ fmI_44_0) ?_
            refine w_if_ne rfl (fun h => absurd (by decide) h) (fun _ => ?_)
            refine w_pushI rfl ?_
            refine w_iret rfl (Or.inl rfl) ?_
            show gW _ _ _ _ _ _ _ _ _ _
            refine w_istore rfl rfl ?_
            refine w_iload rfl rfl ?_
            refine w_if_ge rfl (fun h => absurd h (by decide)) (fun _ => ?_)
            refine w_iload rfl rfl ?_
            refine w_iret rfl (Or.inl rfl) ?_
            show gW _ _ _ _ _ _ _ _ _ _
            refine w_istore rfl rfl ?_
            refine w_iload rfl rfl ?_
            refine w_if_ge rfl (fun h => absurd h (by decide)) (fun _ => ?_)
            refine w_iload rfl rfl ?_
            refine w_iret rfl (Or.inl rfl) ?_
            exact ⟨congrArg (fun v => some (Value.int v)) (show ((-11) : Int32) = f1_round (3) b by have e0 : (3 : Int32).toInt = 3 := rfl; exact ite_eq_of (fun _ => rfl) (fun hc => absurd (by omega) hc)), rfl, fun x hx => rfl, fun x hx => rfl, fun x hx => rfl⟩
          · obtain rfl : a = 4 := i_is hs5 (by decide)
            refine w_aaldv (j := 4) (r := 46) rfl rfl (by decide) (by unfold vp_in; decide) (hR _ fmR_37_4) ?_
            refine w_callVi (As := [_]) (le := [some _, some _, none, none, none]) rfl rfl rfl (Nat.le_of_ble_eq_true rfl) (Nat.le_of_ble_eq_true rfl) rfl ?_
            refine w_aload rfl rfl ?_
            refine w_callVi (As := []) (le := [some _]) rfl rfl rfl (Nat.le_of_ble_eq_true rfl) (Nat.le_of_ble_eq_true rfl) rfl ?_
            refine w_aload rfl rfl ?_
            refine w_getIv (x := 0) rfl rfl (hI _ fmI_46_0) ?_
            refine w_if_ne rfl (fun h => absurd (by decide) h) (fun _ => ?_)
            refine w_pushI rfl ?_
            refine w_iret rfl (Or.inl rfl) ?_
            show gW _ _ _ _ _ _ _ _ _ _
            refine w_istore rfl rfl ?_
            refine w_iload rfl rfl ?_
            refine w_if_ge rfl (fun h => absurd h (by decide)) (fun _ => ?_)
            refine w_iload rfl rfl ?_
            refine w_iret rfl (Or.inl rfl) ?_
            show gW _ _ _ _ _ _ _ _ _ _
            refine w_istore rfl rfl ?_
            refine w_iload rfl rfl ?_
            refine w_if_ge rfl (fun h => absurd h (by decide)) (fun _ => ?_)
            refine w_iload rfl rfl ?_
            refine w_iret rfl (Or.inl rfl) ?_
            exact ⟨congrArg (fun v => some (Value.int v)) (show ((-11) : Int32) = f1_round (4) b by have e0 : (4 : Int32).toInt = 4 := rfl; exact ite_eq_of (fun _ => rfl) (fun hc => absurd (by omega) hc)), rfl, fun x hx => rfl, fun x hx => rfl, fun x hx => rfl⟩
          · obtain rfl : a = 5 := i_is hs5 (by decide)
            refine w_aaldv (j := 5) (r := 48) rfl rfl (by decide) (by unfold vp_in; decide) (hR _ fmR_37_5) ?_
            refine w_callVi (As := [_]) (le := [some _, some _, none, none, none]) rfl rfl rfl (Nat.le_of_ble_eq_true rfl) (Nat.le_of_ble_eq_true rfl) rfl ?_
            refine w_aload rfl rfl ?_
            refine w_callVi (As := []) (le := [some _]) rfl rfl rfl (Nat.le_of_ble_eq_true rfl) (Nat.le_of_ble_eq_true rfl) rfl ?_
            refine w_aload rfl rfl ?_
            refine w_getIv (x := 0) rfl rfl (hI _ fmI_48_0) ?_
            refine w_if_ne rfl (fun h => absurd (by decide) h) (fun _ => ?_)
            refine w_pushI rfl ?_
            refine w_iret rfl (Or.inl rfl) ?_
            show gW _ _ _ _ _ _ _ _ _ _
            refine w_istore rfl rfl ?_
            refine w_iload rfl rfl ?_
            refine w_if_ge rfl (fun h => absurd h (by decide)) (fun _ => ?_)
            refine w_iload rfl rfl ?_
            refine w_iret rfl (Or.inl rfl) ?_
            show gW _ _ _ _ _ _ _ _ _ _
            refine w_istore rfl rfl ?_
            refine w_iload rfl rfl ?_
            refine w_if_ge rfl (fun h => absurd h (by decide)) (fun _ => ?_)
            refine w_iload rfl rfl ?_
            refine w_iret rfl (Or.inl rfl) ?_
            exact ⟨congrArg (fun v => some (Value.int v)) (show ((-11) : Int32) = f1_round (5) b by have e0 : (5 : Int32).toInt = 5 := rfl; exact ite_eq_of (fun _ => rfl) (fun hc => absurd (by omega) hc)), rfl, fun x hx => rfl, fun x hx => rfl, fun x hx => rfl⟩
        · refine w_pushI rfl ?_
          refine w_iret rfl (Or.inl rfl) ?_
          exact ⟨congrArg (fun v => some (Value.int v)) (show ((-1) : Int32) = f1_round a b by exact ite_eq_of (fun hc => absurd hc (by omega)) (fun _ => rfl)), rfl, fun x hx => rfl, fun x hx => rfl, fun x hx => rfl⟩
set_option maxHeartbeats 40000000 in
set_option maxRecDepth 100000 in
theorem a2_round {X : Nat × (Nat → Int32)} {d : Nat} {I : Nat → Nat → Int32} {L : Nat → Nat → Int64} {R : Nat → Nat → Option Nat} (hI : ∀ q ∈ gFlI, 50 ≤ q.1 → I q.1 q.2.1 = q.2.2) (hL : ∀ q ∈ gFlL, 50 ≤ q.1 → L q.1 q.2.1 = q.2.2) (hR : ∀ q ∈ gFlR, 50 ≤ q.1 → R q.1 q.2.1 = some q.2.2) (a : Int32) (b : Int32) : gW X (d + 12) 196 0 0 0 (gEn 196 [.ref 50, .int a, .int b]) [] (gK 87, I, L, R) (fun r _ => r = some (.int (f1_round a b))) := by
  show gW _ _ _ _ _ _ [some (.ref 50), some (.int a), some (.int b), none] _ _ _
  refine w_iload rfl rfl ?_
  refine w_callSi (As := [_]) (le := [some _]) rfl rfl (Nat.le_of_ble_eq_true rfl) (Nat.le_of_ble_eq_true rfl) rfl ?_
  refine w_iload rfl rfl ?_
  refine w_pushI rfl ?_
  refine w_pushI rfl ?_
  refine w_callSi (As := [_, _, _]) (le := [some _, some _, some _]) rfl rfl (Nat.le_of_ble_eq_true rfl) (Nat.le_of_ble_eq_true rfl) rfl ?_
  refine w_iload rfl rfl ?_
  refine w_iload rfl rfl ?_
  refine w_icmp_ltZ (b := 0) rfl rfl (by decide) (fun h1 => ?_) (fun h1 => ?_)
  · refine w_pushI rfl ?_
    refine w_iret rfl (Or.inr ⟨rfl, by decide⟩) ?_
    show gW _ _ _ _ _ _ _ _ _ _
    refine w_iret rfl (Or.inr ⟨rfl, by decide⟩) ?_
    show gW _ _ _ _ _ _ _ _ _ _
    refine w_if_eq rfl (fun _ => ?_) (fun h => absurd (by decide) h)
    refine w_pushI rfl ?_
    refine w_iret rfl (Or.inl rfl) ?_
    exact congrArg (fun v => some (Value.int v)) (show ((-1) : Int32) = f1_round a b by exact ite_eq_of (fun hc => absurd hc (by omega)) (fun _ => rfl))
  · refine w_iload rfl rfl ?_
    refine w_iload rfl rfl ?_
    refine w_icmp_gtZ (b := 5) rfl rfl (by decide) (fun h2 => ?_) (fun h2 => ?_)
    · refine w_pushI rfl ?_
      refine w_iret rfl (Or.inr ⟨rfl, by decide⟩) ?_
      show gW _ _ _ _ _ _ _ _ _ _
      refine w_iret rfl (Or.inr ⟨rfl, by decide⟩) ?_
      show gW _ _ _ _ _ _ _ _ _ _
      refine w_if_eq rfl (fun _ => ?_) (fun h => absurd (by decide) h)
      refine w_pushI rfl ?_
      refine w_iret rfl (Or.inl rfl) ?_
      exact congrArg (fun v => some (Value.int v)) (show ((-1) : Int32) = f1_round a b by exact ite_eq_of (fun hc => absurd hc (by omega)) (fun _ => rfl))
    · refine w_pushI rfl ?_
      refine w_goto rfl ?_
      refine w_iret rfl (Or.inr ⟨rfl, by decide⟩) ?_
      show gW _ _ _ _ _ _ _ _ _ _
      refine w_iret rfl (Or.inr ⟨rfl, by decide⟩) ?_
      show gW _ _ _ _ _ _ _ _ _ _
      refine w_if_eq rfl (fun h => absurd h (by decide)) (fun _ => ?_)
      refine w_iload rfl rfl ?_
      refine w_pushI rfl ?_
      refine w_aload rfl rfl ?_
      refine w_getIv (x := 0) rfl rfl (hI _ fmI_50_1 (by decide)) ?_
      refine w_pushI rfl ?_
      refine w_isubv (z := (-1)) rfl (by decide) ?_
      refine w_callSi (As := [_, _, _]) (le := [some _, some _, some _]) rfl rfl (Nat.le_of_ble_eq_true rfl) (Nat.le_of_ble_eq_true rfl) rfl ?_
      refine w_iload rfl rfl ?_
      refine w_iload rfl rfl ?_
      refine w_icmp_ltZ (b := (-3)) rfl rfl (by decide) (fun h3 => ?_) (fun h3 => ?_)
      · refine w_pushI rfl ?_
        refine w_iret rfl (Or.inr ⟨rfl, by decide⟩) ?_
        show gW _ _ _ _ _ _ _ _ _ _
        refine w_if_ne rfl (fun h => absurd (by decide) h) (fun _ => ?_)
        refine w_pushI rfl ?_
        refine w_iret rfl (Or.inl rfl) ?_
        exact congrArg (fun v => some (Value.int v)) (show ((-1) : Int32) = f1_round a b by exact ite_eq_of (fun hc => absurd hc (by omega)) (fun _ => rfl))
      · refine w_iload rfl rfl ?_
        refine w_iload rfl rfl ?_
        refine w_icmp_gtZ (b := (-1)) rfl rfl (by decide) (fun h4 => ?_) (fun h4 => ?_)
        · refine w_pushI rfl ?_
          refine w_iret rfl (Or.inr ⟨rfl, by decide⟩) ?_
          show gW _ _ _ _ _ _ _ _ _ _
          refine w_if_ne rfl (fun h => absurd (by decide) h) (fun _ => ?_)
          refine w_pushI rfl ?_
          refine w_iret rfl (Or.inl rfl) ?_
          exact congrArg (fun v => some (Value.int v)) (show ((-1) : Int32) = f1_round a b by exact ite_eq_of (fun hc => absurd hc (by omega)) (fun _ => rfl))
        · refine w_pushI rfl ?_
          refine w_goto rfl ?_
          refine w_iret rfl (Or.inr ⟨rfl, by decide⟩) ?_
          show gW _ _ _ _ _ _ _ _ _ _
          refine w_if_ne rfl (fun _ => ?_) (fun h => absurd h (by decide))
          refine w_aload rfl rfl ?_
          refine w_iload rfl rfl ?_
          refine w_callVi (As := [_]) (le := [some _, some _]) rfl rfl rfl (Nat.le_of_ble_eq_true rfl) (Nat.le_of_ble_eq_true rfl) rfl ?_
          refine w_aload rfl rfl ?_
          refine w_getR (r := 83) rfl rfl (hR _ fmR_50_58 (by decide)) ?_
          refine w_iload rfl rfl ?_
          rcases (show a.toInt = 0 ∨ a.toInt = 1 ∨ a.toInt = 2 ∨ a.toInt = 3 ∨ a.toInt = 4 ∨ a.toInt = 5 by omega) with hs5 | hs5 | hs5 | hs5 | hs5 | hs5
          · obtain rfl : a = 0 := i_is hs5 (by decide)
            refine w_ialdv (j := 0) (x := (-1)) rfl rfl (by decide) (by unfold vp_in; decide) (hI _ fmI_83_0 (by decide)) ?_
            refine w_pushI rfl ?_
            refine w_icmp_ne rfl (fun h => absurd (by decide) h) (fun _ => ?_)
            refine w_pushI rfl ?_
            refine w_goto rfl ?_
            refine w_iret rfl (Or.inl rfl) ?_
            show gW _ _ _ _ _ _ _ _ _ _
            refine w_if_ge rfl (fun h => absurd h (by decide)) (fun _ => ?_)
            refine w_aload rfl rfl ?_
            refine w_iload rfl rfl ?_
            refine w_topv (z := 0) (by decide) ?_
            refine w_callVi (As := [_]) (le := [some _, some _]) rfl rfl rfl (Nat.le_of_ble_eq_true rfl) (Nat.le_of_ble_eq_true rfl) rfl ?_
            refine w_aload rfl rfl ?_
            refine w_getR (r := 83) rfl rfl (hR _ fmR_50_58 (by decide)) ?_
            refine w_iload rfl rfl ?_
            refine w_ialdv (j := 0) (x := (-1)) rfl rfl (by decide) (by unfold vp_in; decide) (hI _ fmI_83_0 (by decide)) ?_
            refine w_pushI rfl ?_
            refine w_icmp_ne rfl (fun h => absurd (by decide) h) (fun _ => ?_)
            refine w_pushI rfl ?_
            refine w_goto rfl ?_
            refine w_iret rfl (Or.inl rfl) ?_
            show gW _ _ _ _ _ _ _ _ _ _
            refine w_iret rfl (Or.inl rfl) ?_
            exact congrArg (fun v => some (Value.int v)) (show ((-11) : Int32) = f1_round (0) b by have e0 : (0 : Int32).toInt = 0 := rfl; exact ite_eq_of (fun _ => rfl) (fun hc => absurd (by omega) hc))
          · obtain rfl : a = 1 := i_is hs5 (by decide)
            refine w_ialdv (j := 1) (x := (-1)) rfl rfl (by decide) (by unfold vp_in; decide) (hI _ fmI_83_1 (by decide)) ?_
            refine w_pushI rfl ?_
            refine w_icmp_ne rfl (fun h => absurd (by decide) h) (fun _ => ?_)
            refine w_pushI rfl ?_
            refine w_goto rfl ?_
            refine w_iret rfl (Or.inl rfl) ?_
            show gW _ _ _ _ _ _ _ _ _ _
            refine w_if_ge rfl (fun h => absurd h (by decide)) (fun _ => ?_)
            refine w_aload rfl rfl ?_
            refine w_iload rfl rfl ?_
            refine w_topv (z := 1) (by decide) ?_
            refine w_callVi (As := [_]) (le := [some _, some _]) rfl rfl rfl (Nat.le_of_ble_eq_true rfl) (Nat.le_of_ble_eq_true rfl) rfl ?_
            refine w_aload rfl rfl ?_
            refine w_getR (r := 83) rfl rfl (hR _ fmR_50_58 (by decide)) ?_
            refine w_iload rfl rfl ?_
            refine w_ialdv (j := 1) (x := (-1)) rfl rfl (by decide) (by unfold vp_in; decide) (hI _ fmI_83_1 (by decide)) ?_
            refine w_pushI rfl ?_
            refine w_icmp_ne rfl (fun h => absurd (by decide) h) (fun _ => ?_)
            refine w_pushI rfl ?_
            refine w_goto rfl ?_
            refine w_iret rfl (Or.inl rfl) ?_
            show gW _ _ _ _ _ _ _ _ _ _
            refine w_iret rfl (Or.inl rfl) ?_
            exact congrArg (fun v => some (Value.int v)) (show ((-11) : Int32) = f1_round (1) b by have e0 : (1 : Int32).toInt = 1 := rfl; exact ite_eq_of (fun _ => rfl) (fun hc => absurd (by omega) hc))
          · obtain rfl : a = 2 := i_is hs5 (by decide)
            refine w_ialdv (j := 2) (x := (-1)) rfl rfl (by decide) (by unfold vp_in; decide) (hI _ fmI_83_2 (by decide)) ?_
            refine w_pushI rfl ?_
            refine w_icmp_ne rfl (fun h => absurd (by decide) h) (fun _ => ?_)
            refine w_pushI rfl ?_
            refine w_goto rfl ?_
            refine w_iret rfl (Or.inl rfl) ?_
            show gW _ _ _ _ _ _ _ _ _ _
            refine w_if_ge rfl (fun h => absurd h (by decide)) (fun _ => ?_)
            refine w_aload rfl rfl ?_
            refine w_iload rfl rfl ?_
            refine w_topv (z := 2) (by decide) ?_
            refine w_callVi (As := [_]) (le := [some _, some _]) rfl rfl rfl (Nat.le_of_ble_eq_true rfl) (Nat.le_of_ble_eq_true rfl) rfl ?_
            refine w_aload rfl rfl ?_
            refine w_getR (r := 83) rfl rfl (hR _ fmR_50_58 (by decide)) ?_
            refine w_iload rfl rfl ?_
            refine w_ialdv (j := 2) (x := (-1)) rfl rfl (by decide) (by unfold vp_in; decide) (hI _ fmI_83_2 (by decide)) ?_
            refine w_pushI rfl ?_
            refine w_icmp_ne rfl (fun h => absurd (by decide) h) (fun _ => ?_)
            refine w_pushI rfl ?_
            refine w_goto rfl ?_
            refine w_iret rfl (Or.inl rfl) ?_
            show gW _ _ _ _ _ _ _ _ _ _
            refine w_iret rfl (Or.inl rfl) ?_
            exact congrArg (fun v => some (Value.int v)) (show ((-11) : Int32) = f1_round (2) b by have e0 : (2 : Int32).toInt = 2 := rfl; exact ite_eq_of (fun _ => rfl) (fun hc => absurd (by omega) hc))
          · obtain rfl : a = 3 := i_is hs5 (by decide)
            refine w_ialdv (j := 3) (x := (-1)) rfl rfl (by decide) (by unfold vp_in; decide) (hI _ fmI_83_3 (by decide)) ?_
            refine w_pushI rfl ?_
            refine w_icmp_ne rfl (fun h => absurd (by decide) h) (fun _ => ?_)
            refine w_pushI rfl ?_
            refine w_goto rfl ?_
            refine w_iret rfl (Or.inl rfl) ?_
            show gW _ _ _ _ _ _ _ _ _ _
            refine w_if_ge rfl (fun h => absurd h (by decide)) (fun _ => ?_)
            refine w_aload rfl rfl ?_
            refine w_iload rfl rfl ?_
            refine w_topv (z := 3) (by decide) ?_
            refine w_callVi (As := [_]) (le := [some _, some _]) rfl rfl rfl (Nat.le_of_ble_eq_true rfl) (Nat.le_of_ble_eq_true rfl) rfl ?_
            refine w_aload rfl rfl ?_
            refine w_getR (r := 83) rfl rfl (hR _ fmR_50_58 (by decide)) ?_
            refine w_iload rfl rfl ?_
            refine w_ialdv (j := 3) (x := (-1)) rfl rfl (by decide) (by unfold vp_in; decide) (hI _ fmI_83_3 (by decide)) ?_
            refine w_pushI rfl ?_
            refine w_icmp_ne rfl (fun h => absurd (by decide) h) (fun _ => ?_)
            refine w_pushI rfl ?_
            refine w_goto rfl ?_
            refine w_iret rfl (Or.inl rfl) ?_
            show gW _ _ _ _ _ _ _ _ _ _
            refine w_iret rfl (Or.inl rfl) ?_
            exact congrArg (fun v => some (Value.int v)) (show ((-11) : Int32) = f1_round (3) b by have e0 : (3 : Int32).toInt = 3 := rfl; exact ite_eq_of (fun _ => rfl) (fun hc => absurd (by omega) hc))
          · obtain rfl : a = 4 := i_is hs5 (by decide)
            refine w_ialdv (j := 4) (x := (-1)) rfl rfl (by decide) (by unfold vp_in; decide) (hI _ fmI_83_4 (by decide)) ?_
            refine w_pushI rfl ?_
            refine w_icmp_ne rfl (fun h => absurd (by decide) h) (fun _ => ?_)
            refine w_pushI rfl ?_
            refine w_goto rfl ?_
            refine w_iret rfl (Or.inl rfl) ?_
            show gW _ _ _ _ _ _ _ _ _ _
            refine w_if_ge rfl (fun h => absurd h (by decide)) (fun _ => ?_)
            refine w_aload rfl rfl ?_
            refine w_iload rfl rfl ?_
            refine w_topv (z := 4) (by decide) ?_
            refine w_callVi (As := [_]) (le := [some _, some _]) rfl rfl rfl (Nat.le_of_ble_eq_true rfl) (Nat.le_of_ble_eq_true rfl) rfl ?_
            refine w_aload rfl rfl ?_
            refine w_getR (r := 83) rfl rfl (hR _ fmR_50_58 (by decide)) ?_
            refine w_iload rfl rfl ?_
            refine w_ialdv (j := 4) (x := (-1)) rfl rfl (by decide) (by unfold vp_in; decide) (hI _ fmI_83_4 (by decide)) ?_
            refine w_pushI rfl ?_
            refine w_icmp_ne rfl (fun h => absurd (by decide) h) (fun _ => ?_)
            refine w_pushI rfl ?_
            refine w_goto rfl ?_
            refine w_iret rfl (Or.inl rfl) ?_
            show gW _ _ _ _ _ _ _ _ _ _
            refine w_iret rfl (Or.inl rfl) ?_
            exact congrArg (fun v => some (Value.int v)) (show ((-11) : Int32) = f1_round (4) b by have e0 : (4 : Int32).toInt = 4 := rfl; exact ite_eq_of (fun _ => rfl) (fun hc => absurd (by omega) hc))
          · obtain rfl : a = 5 := i_is hs5 (by decide)
            refine w_ialdv (j := 5) (x := (-1)) rfl rfl (by decide) (by unfold vp_in; decide) (hI _ fmI_83_5 (by decide)) ?_
            refine w_pushI rfl ?_
            refine w_icmp_ne rfl (fun h => absurd (by decide) h) (fun _ => ?_)
            refine w_pushI rfl ?_
            refine w_goto rfl ?_
            refine w_iret rfl (Or.inl rfl) ?_
            show gW _ _ _ _ _ _ _ _ _ _
            refine w_if_ge rfl (fun h => absurd h (by decide)) (fun _ => ?_)
            refine w_aload rfl rfl ?_
            refine w_iload rfl rfl ?_
            refine w_topv (z := 5) (by decide) ?_
            refine w_callVi (As := [_]) (le := [some _, some _]) rfl rfl rfl (Nat.le_of_ble_eq_true rfl) (Nat.le_of_ble_eq_true rfl) rfl ?_
            refine w_aload rfl rfl ?_
            refine w_getR (r := 83) rfl rfl (hR _ fmR_50_58 (by decide)) ?_
            refine w_iload rfl rfl ?_
            refine w_ialdv (j := 5) (x := (-1)) rfl rfl (by decide) (by unfold vp_in; decide) (hI _ fmI_83_5 (by decide)) ?_
            refine w_pushI rfl ?_
            refine w_icmp_ne rfl (fun h => absurd (by decide) h) (fun _ => ?_)
            refine w_pushI rfl ?_
            refine w_goto rfl ?_
            refine w_iret rfl (Or.inl rfl) ?_
            show gW _ _ _ _ _ _ _ _ _ _
            refine w_iret rfl (Or.inl rfl) ?_
            exact congrArg (fun v => some (Value.int v)) (show ((-11) : Int32) = f1_round (5) b by have e0 : (5 : Int32).toInt = 5 := rfl; exact ite_eq_of (fun _ => rfl) (fun hc => absurd (by omega) hc))
set_option maxHeartbeats 40000000 in
set_option maxRecDepth 100000 in
theorem a1_ifNot {X : Nat × (Nat → Int32)} {d : Nat} {I : Nat → Nat → Int32} {L : Nat → Nat → Int64} {R : Nat → Nat → Option Nat} (hI : ∀ q ∈ gFlI, I q.1 q.2.1 = q.2.2) (hL : ∀ q ∈ gFlL, L q.1 q.2.1 = q.2.2) (hR : ∀ q ∈ gFlR, R q.1 q.2.1 = some q.2.2) (a : Int32) (b : Int32) : gW X (d + 12) 110 0 0 0 (gEn 110 [.ref 0, .int a, .int b]) [] (gK 87, I, L, R) (fun r σ => r = some (.int (f1_ifNot a b)) ∧ gFr σ I L R) := by
  show gW _ _ _ _ _ _ [some (.ref 0), some (.int a), some (.int b), none, none, none, none] _ _ _
  refine w_iload rfl rfl ?_
  refine w_callSi (As := [_]) (le := [some _]) rfl rfl (Nat.le_of_ble_eq_true rfl) (Nat.le_of_ble_eq_true rfl) rfl ?_
  refine w_iload rfl rfl ?_
  refine w_if_ltZ rfl rfl (fun h1 => ?_) (fun h1 => ?_)
  · refine w_pushI rfl ?_
    refine w_iret rfl (Or.inr ⟨rfl, by decide⟩) ?_
    show gW _ _ _ _ _ _ _ _ _ _
    refine w_if_eq rfl (fun _ => ?_) (fun h => absurd (by decide) h)
    refine w_pushI rfl ?_
    refine w_iret rfl (Or.inl rfl) ?_
    exact ⟨congrArg (fun v => some (Value.int v)) (show ((-1) : Int32) = f1_ifNot a b by exact ite_eq_of (fun hc => absurd hc (by omega)) (fun _ => rfl)), rfl, fun x hx => rfl, fun x hx => rfl, fun x hx => rfl⟩
  · refine w_iload rfl rfl ?_
    refine w_pushI rfl ?_
    refine w_icmp_geZ (b := 6) rfl rfl (by decide) (fun h2 => ?_) (fun h2 => ?_)
    · refine w_pushI rfl ?_
      refine w_iret rfl (Or.inr ⟨rfl, by decide⟩) ?_
      show gW _ _ _ _ _ _ _ _ _ _
      refine w_if_eq rfl (fun _ => ?_) (fun h => absurd (by decide) h)
      refine w_pushI rfl ?_
      refine w_iret rfl (Or.inl rfl) ?_
      exact ⟨congrArg (fun v => some (Value.int v)) (show ((-1) : Int32) = f1_ifNot a b by exact ite_eq_of (fun hc => absurd hc (by omega)) (fun _ => rfl)), rfl, fun x hx => rfl, fun x hx => rfl, fun x hx => rfl⟩
    · refine w_pushI rfl ?_
      refine w_goto rfl ?_
      refine w_iret rfl (Or.inr ⟨rfl, by decide⟩) ?_
      show gW _ _ _ _ _ _ _ _ _ _
      refine w_if_eq rfl (fun h => absurd h (by decide)) (fun _ => ?_)
      refine w_iload rfl rfl ?_
      refine w_callSi (As := [_]) (le := [some _]) rfl rfl (Nat.le_of_ble_eq_true rfl) (Nat.le_of_ble_eq_true rfl) rfl ?_
      refine w_iload rfl rfl ?_
      refine w_if_eqZ rfl rfl (fun h3 => ?_) (fun h3 => ?_)
      · obtain rfl : b = 0 := i_is (show b.toInt = 0 by omega) (by decide)
        refine w_pushI rfl ?_
        refine w_goto rfl ?_
        refine w_iret rfl (Or.inr ⟨rfl, by decide⟩) ?_
        show gW _ _ _ _ _ _ _ _ _ _
        refine w_if_ne rfl (fun _ => ?_) (fun h => absurd h (by decide))
        refine w_aload rfl rfl ?_
        refine w_getR (r := 10) rfl rfl (hR _ fmR_0_2) ?_
        refine w_aload rfl rfl ?_
        refine w_getR (r := 37) rfl rfl (hR _ fmR_0_11) ?_
        refine w_iload rfl rfl ?_
        rcases (show a.toInt = 0 ∨ a.toInt = 1 ∨ a.toInt = 2 ∨ a.toInt = 3 ∨ a.toInt = 4 ∨ a.toInt = 5 by omega) with hs5 | hs5 | hs5 | hs5 | hs5 | hs5
        · obtain rfl : a = 0 := i_is hs5 (by decide)
          refine w_aaldv (j := 0) (r := 38) rfl rfl (by decide) (by unfold vp_in; decide) (hR _ fmR_37_0) ?_
          refine w_callVi (As := [_]) (le := [some _, some _, none, none, none]) rfl rfl rfl (Nat.le_of_ble_eq_true rfl) (Nat.le_of_ble_eq_true rfl) rfl ?_
          refine w_aload rfl rfl ?_
          refine w_callVi (As := []) (le := [some _]) rfl rfl rfl (Nat.le_of_ble_eq_true rfl) (Nat.le_of_ble_eq_true rfl) rfl ?_
          refine w_aload rfl rfl ?_
          refine w_getIv (x := 0) rfl rfl (hI _ fmI_38_0) ?_
          refine w_if_ne rfl (fun h => absurd (by decide) h) (fun _ => ?_)
          refine w_pushI rfl ?_
          refine w_iret rfl (Or.inl rfl) ?_
          show gW _ _ _ _ _ _ _ _ _ _
          refine w_istore rfl rfl ?_
          refine w_iload rfl rfl ?_
          refine w_if_ge rfl (fun h => absurd h (by decide)) (fun _ => ?_)
          refine w_iload rfl rfl ?_
          refine w_iret rfl (Or.inl rfl) ?_
          show gW _ _ _ _ _ _ _ _ _ _
          refine w_istore rfl rfl ?_
          refine w_iload rfl rfl ?_
          refine w_if_ge rfl (fun h => absurd h (by decide)) (fun _ => ?_)
          refine w_iload rfl rfl ?_
          refine w_iret rfl (Or.inl rfl) ?_
          exact ⟨congrArg (fun v => some (Value.int v)) (show ((-11) : Int32) = f1_ifNot (0) (0) by have e0 : (0 : Int32).toInt = 0 := rfl; have e1 : (0 : Int32).toInt = 0 := rfl; exact ite_eq_of (fun _ => rfl) (fun hc => absurd (by omega) hc)), rfl, fun x hx => rfl, fun x hx => rfl, fun x hx => rfl⟩
        · obtain rfl : a = 1 := i_is hs5 (by decide)
          refine w_aaldv (j := 1) (r := 40) rfl rfl (by decide) (by unfold vp_in; decide) (hR _ fmR_37_1) ?_
          refine w_callVi (As := [_]) (le := [some _, some _, none, none, none]) rfl rfl rfl (Nat.le_of_ble_eq_true rfl) (Nat.le_of_ble_eq_true rfl) rfl ?_
          refine w_aload rfl rfl ?_
          refine w_callVi (As := []) (le := [some _]) rfl rfl rfl (Nat.le_of_ble_eq_true rfl) (Nat.le_of_ble_eq_true rfl) rfl ?_
          refine w_aload rfl rfl ?_
          refine w_getIv (x := 0) rfl rfl (hI _ fmI_40_0) ?_
          refine w_if_ne rfl (fun h => absurd (by decide) h) (fun _ => ?_)
          refine w_pushI rfl ?_
          refine w_iret rfl (Or.inl rfl) ?_
          show gW _ _ _ _ _ _ _ _ _ _
          refine w_istore rfl rfl ?_
          refine w_iload rfl rfl ?_
          refine w_if_ge rfl (fun h => absurd h (by decide)) (fun _ => ?_)
          refine w_iload rfl rfl ?_
          refine w_iret rfl (Or.inl rfl) ?_
          show gW _ _ _ _ _ _ _ _ _ _
          refine w_istore rfl rfl ?_
          refine w_iload rfl rfl ?_
          refine w_if_ge rfl (fun h => absurd h (by decide)) (fun _ => ?_)
          refine w_iload rfl rfl ?_
          refine w_iret rfl (Or.inl rfl) ?_
          exact ⟨congrArg (fun v => some (Value.int v)) (show ((-11) : Int32) = f1_ifNot (1) (0) by have e0 : (1 : Int32).toInt = 1 := rfl; have e1 : (0 : Int32).toInt = 0 := rfl; exact ite_eq_of (fun _ => rfl) (fun hc => absurd (by omega) hc)), rfl, fun x hx => rfl, fun x hx => rfl, fun x hx => rfl⟩
        · obtain rfl : a = 2 := i_is hs5 (by decide)
          refine w_aaldv (j := 2) (r := 42) rfl rfl (by decide) (by unfold vp_in; decide) (hR _ fmR_37_2) ?_
          refine w_callVi (As := [_]) (le := [some _, some _, none, none, none]) rfl rfl rfl (Nat.le_of_ble_eq_true rfl) (Nat.le_of_ble_eq_true rfl) rfl ?_
          refine w_aload rfl rfl ?_
          refine w_callVi (As := []) (le := [some _]) rfl rfl rfl (Nat.le_of_ble_eq_true rfl) (Nat.le_of_ble_eq_true rfl) rfl ?_
          refine w_aload rfl rfl ?_
          refine w_getIv (x := 0) rfl rfl (hI _ fmI_42_0) ?_
          refine w_if_ne rfl (fun h => absurd (by decide) h) (fun _ => ?_)
          refine w_pushI rfl ?_
          refine w_iret rfl (Or.inl rfl) ?_
          show gW _ _ _ _ _ _ _ _ _ _
          refine w_istore rfl rfl ?_
          refine w_iload rfl rfl ?_
          refine w_if_ge rfl (fun h => absurd h (by decide)) (fun _ => ?_)
          refine w_iload rfl rfl ?_
          refine w_iret rfl (Or.inl rfl) ?_
          show gW _ _ _ _ _ _ _ _ _ _
          refine w_istore rfl rfl ?_
          refine w_iload rfl rfl ?_
          refine w_if_ge rfl (fun h => absurd h (by decide)) (fun _ => ?_)
          refine w_iload rfl rfl ?_
          refine w_iret rfl (Or.inl rfl) ?_
          exact ⟨congrArg (fun v => some (Value.int v)) (show ((-11) : Int32) = f1_ifNot (2) (0) by have e0 : (2 : Int32).toInt = 2 := rfl; have e1 : (0 : Int32).toInt = 0 := rfl; exact ite_eq_of (fun _ => rfl) (fun hc => absurd (by omega) hc)), rfl, fun x hx => rfl, fun x hx => rfl, fun x hx => rfl⟩
        · obtain rfl : a = 3 := i_is hs5 (by decide)
          refine w_aaldv (j := 3) (r := 44) rfl rfl (by decide) (by unfold vp_in; decide) (hR _ fmR_37_3) ?_
          refine w_callVi (As := [_]) (le := [some _, some _, none, none, none]) rfl rfl rfl (Nat.le_of_ble_eq_true rfl) (Nat.le_of_ble_eq_true rfl) rfl ?_
          refine w_aload rfl rfl ?_
          refine w_callVi (As := []) (le := [some _]) rfl rfl rfl (Nat.le_of_ble_eq_true rfl) (Nat.le_of_ble_eq_true rfl) rfl ?_
          refine w_aload rfl rfl ?_
          refine w_getIv (x := 0) rfl rfl (hI _ fmI_44_0) ?_
          refine w_if_ne rfl (fun h => absurd (by decide) h) (fun _ => ?_)
          refine w_pushI rfl ?_
          refine w_iret rfl (Or.inl rfl) ?_
          show gW _ _ _ _ _ _ _ _ _ _
          refine w_istore rfl rfl ?_
          refine w_iload rfl rfl ?_
          refine w_if_ge rfl (fun h => absurd h (by decide)) (fun _ => ?_)
          refine w_iload rfl rfl ?_
          refine w_iret rfl (Or.inl rfl) ?_
          show gW _ _ _ _ _ _ _ _ _ _
          refine w_istore rfl rfl ?_
          refine w_iload rfl rfl ?_
          refine w_if_ge rfl (fun h => absurd h (by decide)) (fun _ => ?_)
          refine w_iload rfl rfl ?_
          refine w_iret rfl (Or.inl rfl) ?_
          exact ⟨congrArg (fun v => some (Value.int v)) (show ((-11) : Int32) = f1_ifNot (3) (0) by have e0 : (3 : Int32).toInt = 3 := rfl; have e1 : (0 : Int32).toInt = 0 := rfl; exact ite_eq_of (fun _ => rfl) (fun hc => absurd (by omega) hc)), rfl, fun x hx => rfl, fun x hx => rfl, fun x hx => rfl⟩
        · obtain rfl : a = 4 := i_is hs5 (by decide)
          refine w_aaldv (j := 4) (r := 46) rfl rfl (by decide) (by unfold vp_in; decide) (hR _ fmR_37_4) ?_
          refine w_callVi (As := [_]) (le := [some _, some _, none, none, none]) rfl rfl rfl (Nat.le_of_ble_eq_true rfl) (Nat.le_of_ble_eq_true rfl) rfl ?_
          refine w_aload rfl rfl ?_
          refine w_callVi (As := []) (le := [some _]) rfl rfl rfl (Nat.le_of_ble_eq_true rfl) (Nat.le_of_ble_eq_true rfl) rfl ?_
          refine w_aload rfl rfl ?_
          refine w_getIv (x := 0) rfl rfl (hI _ fmI_46_0) ?_
          refine w_if_ne rfl (fun h => absurd (by decide) h) (fun _ => ?_)
          refine w_pushI rfl ?_
          refine w_iret rfl (Or.inl rfl) ?_
          show gW _ _ _ _ _ _ _ _ _ _
          refine w_istore rfl rfl ?_
          refine w_iload rfl rfl ?_
          refine w_if_ge rfl (fun h => absurd h (by decide)) (fun _ => ?_)
          refine w_iload rfl rfl ?_
          refine w_iret rfl (Or.inl rfl) ?_
          show gW _ _ _ _ _ _ _ _ _ _
          refine w_istore rfl rfl ?_
          refine w_iload rfl rfl ?_
          refine w_if_ge rfl (fun h => absurd h (by decide)) (fun _ => ?_)
          refine w_iload rfl rfl ?_
          refine w_iret rfl (Or.inl rfl) ?_
          exact ⟨congrArg (fun v => some (Value.int v)) (show ((-11) : Int32) = f1_ifNot (4) (0) by have e0 : (4 : Int32).toInt = 4 := rfl; have e1 : (0 : Int32).toInt = 0 := rfl; exact ite_eq_of (fun _ => rfl) (fun hc => absurd (by omega) hc)), rfl, fun x hx => rfl, fun x hx => rfl, fun x hx => rfl⟩
        · obtain rfl : a = 5 := i_is hs5 (by decide)
          refine w_aaldv (j := 5) (r := 48) rfl rfl (by decide) (by unfold vp_in; decide) (hR _ fmR_37_5) ?_
          refine w_callVi (As := [_]) (le := [some _, some _, none, none, none]) rfl rfl rfl (Nat.le_of_ble_eq_true rfl) (Nat.le_of_ble_eq_true rfl) rfl ?_
          refine w_aload rfl rfl ?_
          refine w_callVi (As := []) (le := [some _]) rfl rfl rfl (Nat.le_of_ble_eq_true rfl) (Nat.le_of_ble_eq_true rfl) rfl ?_
          refine w_aload rfl rfl ?_
          refine w_getIv (x := 0) rfl rfl (hI _ fmI_48_0) ?_
          refine w_if_ne rfl (fun h => absurd (by decide) h) (fun _ => ?_)
          refine w_pushI rfl ?_
          refine w_iret rfl (Or.inl rfl) ?_
          show gW _ _ _ _ _ _ _ _ _ _
          refine w_istore rfl rfl ?_
          refine w_iload rfl rfl ?_
          refine w_if_ge rfl (fun h => absurd h (by decide)) (fun _ => ?_)
          refine w_iload rfl rfl ?_
          refine w_iret rfl (Or.inl rfl) ?_
          show gW _ _ _ _ _ _ _ _ _ _
          refine w_istore rfl rfl ?_
          refine w_iload rfl rfl ?_
          refine w_if_ge rfl (fun h => absurd h (by decide)) (fun _ => ?_)
          refine w_iload rfl rfl ?_
          refine w_iret rfl (Or.inl rfl) ?_
          exact ⟨congrArg (fun v => some (Value.int v)) (show ((-11) : Int32) = f1_ifNot (5) (0) by have e0 : (5 : Int32).toInt = 5 := rfl; have e1 : (0 : Int32).toInt = 0 := rfl; exact ite_eq_of (fun _ => rfl) (fun hc => absurd (by omega) hc)), rfl, fun x hx => rfl, fun x hx => rfl, fun x hx => rfl⟩
      · refine w_iload rfl rfl ?_
        refine w_pushI rfl ?_
        refine w_icmp_neZ (b := 1) rfl rfl (by decide) (fun h4 => ?_) (fun h4 => ?_)
        · refine w_pushI rfl ?_
          refine w_iret rfl (Or.inr ⟨rfl, by decide⟩) ?_
          show gW _ _ _ _ _ _ _ _ _ _
          refine w_if_ne rfl (fun h => absurd (by decide) h) (fun _ => ?_)
          refine w_pushI rfl ?_
          refine w_iret rfl (Or.inl rfl) ?_
          exact ⟨congrArg (fun v => some (Value.int v)) (show ((-1) : Int32) = f1_ifNot a b by exact ite_eq_of (fun hc => (by exfalso; omega)) (fun hc => rfl)), rfl, fun x hx => rfl, fun x hx => rfl, fun x hx => rfl⟩
        · obtain rfl : b = 1 := i_is (show b.toInt = 1 by omega) (by decide)
          refine w_pushI rfl ?_
          refine w_goto rfl ?_
          refine w_iret rfl (Or.inr ⟨rfl, by decide⟩) ?_
          show gW _ _ _ _ _ _ _ _ _ _
          refine w_if_ne rfl (fun _ => ?_) (fun h => absurd h (by decide))
          refine w_aload rfl rfl ?_
          refine w_getR (r := 10) rfl rfl (hR _ fmR_0_2) ?_
          refine w_aload rfl rfl ?_
          refine w_getR (r := 37) rfl rfl (hR _ fmR_0_11) ?_
          refine w_iload rfl rfl ?_
          rcases (show a.toInt = 0 ∨ a.toInt = 1 ∨ a.toInt = 2 ∨ a.toInt = 3 ∨ a.toInt = 4 ∨ a.toInt = 5 by omega) with hs6 | hs6 | hs6 | hs6 | hs6 | hs6
          · obtain rfl : a = 0 := i_is hs6 (by decide)
            refine w_aaldv (j := 0) (r := 38) rfl rfl (by decide) (by unfold vp_in; decide) (hR _ fmR_37_0) ?_
            refine w_callVi (As := [_]) (le := [some _, some _, none, none, none]) rfl rfl rfl (Nat.le_of_ble_eq_true rfl) (Nat.le_of_ble_eq_true rfl) rfl ?_
            refine w_aload rfl rfl ?_
            refine w_callVi (As := []) (le := [some _]) rfl rfl rfl (Nat.le_of_ble_eq_true rfl) (Nat.le_of_ble_eq_true rfl) rfl ?_
            refine w_aload rfl rfl ?_
            refine w_getIv (x := 0) rfl rfl (hI _ fmI_38_0) ?_
            refine w_if_ne rfl (fun h => absurd (by decide) h) (fun _ => ?_)
            refine w_pushI rfl ?_
            refine w_iret rfl (Or.inl rfl) ?_
            show gW _ _ _ _ _ _ _ _ _ _
            refine w_istore rfl rfl ?_
            refine w_iload rfl rfl ?_
            refine w_if_ge rfl (fun h => absurd h (by decide)) (fun _ => ?_)
            refine w_iload rfl rfl ?_
            refine w_iret rfl (Or.inl rfl) ?_
            show gW _ _ _ _ _ _ _ _ _ _
            refine w_istore rfl rfl ?_
            refine w_iload rfl rfl ?_
            refine w_if_ge rfl (fun h => absurd h (by decide)) (fun _ => ?_)
            refine w_iload rfl rfl ?_
            refine w_iret rfl (Or.inl rfl) ?_
            exact ⟨congrArg (fun v => some (Value.int v)) (show ((-11) : Int32) = f1_ifNot (0) (1) by have e0 : (0 : Int32).toInt = 0 := rfl; have e1 : (1 : Int32).toInt = 1 := rfl; exact ite_eq_of (fun _ => rfl) (fun hc => absurd (by omega) hc)), rfl, fun x hx => rfl, fun x hx => rfl, fun x hx => rfl⟩
          · obtain rfl : a = 1 := i_is hs6 (by decide)
            refine w_aaldv (j := 1) (r := 40) rfl rfl (by decide) (by unfold vp_in; decide) (hR _ fmR_37_1) ?_
            refine w_callVi (As := [_]) (le := [some _, some _, none, none, none]) rfl rfl rfl (Nat.le_of_ble_eq_true rfl) (Nat.le_of_ble_eq_true rfl) rfl ?_
            refine w_aload rfl rfl ?_
            refine w_callVi (As := []) (le := [some _]) rfl rfl rfl (Nat.le_of_ble_eq_true rfl) (Nat.le_of_ble_eq_true rfl) rfl ?_
            refine w_aload rfl rfl ?_
            refine w_getIv (x := 0) rfl rfl (hI _ fmI_40_0) ?_
            refine w_if_ne rfl (fun h => absurd (by decide) h) (fun _ => ?_)
            refine w_pushI rfl ?_
            refine w_iret rfl (Or.inl rfl) ?_
            show gW _ _ _ _ _ _ _ _ _ _
            refine w_istore rfl rfl ?_
            refine w_iload rfl rfl ?_
            refine w_if_ge rfl (fun h => absurd h (by decide)) (fun _ => ?_)
            refine w_iload rfl rfl ?_
            refine w_iret rfl (Or.inl rfl) ?_
            show gW _ _ _ _ _ _ _ _ _ _
            refine w_istore rfl rfl ?_
            refine w_iload rfl rfl ?_
            refine w_if_ge rfl (fun h => absurd h (by decide)) (fun _ => ?_)
            refine w_iload rfl rfl ?_
            refine w_iret rfl (Or.inl rfl) ?_
            exact ⟨congrArg (fun v => some (Value.int v)) (show ((-11) : Int32) = f1_ifNot (1) (1) by have e0 : (1 : Int32).toInt = 1 := rfl; have e1 : (1 : Int32).toInt = 1 := rfl; exact ite_eq_of (fun _ => rfl) (fun hc => absurd (by omega) hc)), rfl, fun x hx => rfl, fun x hx => rfl, fun x hx => rfl⟩
          · obtain rfl : a = 2 := i_is hs6 (by decide)
            refine w_aaldv (j := 2) (r := 42) rfl rfl (by decide) (by unfold vp_in; decide) (hR _ fmR_37_2) ?_
            refine w_callVi (As := [_]) (le := [some _, some _, none, none, none]) rfl rfl rfl (Nat.le_of_ble_eq_true rfl) (Nat.le_of_ble_eq_true rfl) rfl ?_
            refine w_aload rfl rfl ?_
            refine w_callVi (As := []) (le := [some _]) rfl rfl rfl (Nat.le_of_ble_eq_true rfl) (Nat.le_of_ble_eq_true rfl) rfl ?_
            refine w_aload rfl rfl ?_
            refine w_getIv (x := 0) rfl rfl (hI _ fmI_42_0) ?_
            refine w_if_ne rfl (fun h => absurd (by decide) h) (fun _ => ?_)
            refine w_pushI rfl ?_
            refine w_iret rfl (Or.inl rfl) ?_
            show gW _ _ _ _ _ _ _ _ _ _
            refine w_istore rfl rfl ?_
            refine w_iload rfl rfl ?_
            refine w_if_ge rfl (fun h => absurd h (by decide)) (fun _ => ?_)
            refine w_iload rfl rfl ?_
            refine w_iret rfl (Or.inl rfl) ?_
            show gW _ _ _ _ _ _ _ _ _ _
            refine w_istore rfl rfl ?_
            refine w_iload rfl rfl ?_
            refine w_if_ge rfl (fun h => absurd h (by decide)) (fun _ => ?_)
            refine w_iload rfl rfl ?_
            refine w_iret rfl (Or.inl rfl) ?_
            exact ⟨congrArg (fun v => some (Value.int v)) (show ((-11) : Int32) = f1_ifNot (2) (1) by have e0 : (2 : Int32).toInt = 2 := rfl; have e1 : (1 : Int32).toInt = 1 := rfl; exact ite_eq_of (fun _ => rfl) (fun hc => absurd (by omega) hc)), rfl, fun x hx => rfl, fun x hx => rfl, fun x hx => rfl⟩
          · obtain rfl : a = 3 := i_is hs6 (by decide)
            refine w_aaldv (j := 3) (r := 44) rfl rfl (by decide) (by unfold vp_in; decide) (hR _ fmR_37_3) ?_
            refine w_callVi (As := [_]) (le := [some _, some _, none, none, none]) rfl rfl rfl (Nat.le_of_ble_eq_true rfl) (Nat.le_of_ble_eq_true rfl) rfl ?_
            refine w_aload rfl rfl ?_
            refine w_callVi (As := []) (le := [some _]) rfl rfl rfl (Nat.le_of_ble_eq_true rfl) (Nat.le_of_ble_eq_true rfl) rfl ?_
            refine w_aload rfl rfl ?_
            refine w_getIv (x := 0) rfl rfl (hI _ fmI_44_0) ?_
            refine w_if_ne rfl (fun h => absurd (by decide) h) (fun _ => ?_)
            refine w_pushI rfl ?_
            refine w_iret rfl (Or.inl rfl) ?_
            show gW _ _ _ _ _ _ _ _ _ _
            refine w_istore rfl rfl ?_
            refine w_iload rfl rfl ?_
            refine w_if_ge rfl (fun h => absurd h (by decide)) (fun _ => ?_)
            refine w_iload rfl rfl ?_
            refine w_iret rfl (Or.inl rfl) ?_
            show gW _ _ _ _ _ _ _ _ _ _
            refine w_istore rfl rfl ?_
            refine w_iload rfl rfl ?_
            refine w_if_ge rfl (fun h => absurd h (by decide)) (fun _ => ?_)
            refine w_iload rfl rfl ?_
            refine w_iret rfl (Or.inl rfl) ?_
            exact ⟨congrArg (fun v => some (Value.int v)) (show ((-11) : Int32) = f1_ifNot (3) (1) by have e0 : (3 : Int32).toInt = 3 := rfl; have e1 : (1 : Int32).toInt = 1 := rfl; exact ite_eq_of (fun _ => rfl) (fun hc => absurd (by omega) hc)), rfl, fun x hx => rfl, fun x hx => rfl, fun x hx => rfl⟩
          · obtain rfl : a = 4 := i_is hs6 (by decide)
            refine w_aaldv (j := 4) (r := 46) rfl rfl (by decide) (by unfold vp_in; decide) (hR _ fmR_37_4) ?_
            refine w_callVi (As := [_]) (le := [some _, some _, none, none, none]) rfl rfl rfl (Nat.le_of_ble_eq_true rfl) (Nat.le_of_ble_eq_true rfl) rfl ?_
            refine w_aload rfl rfl ?_
            refine w_callVi (As := []) (le := [some _]) rfl rfl rfl (Nat.le_of_ble_eq_true rfl) (Nat.le_of_ble_eq_true rfl) rfl ?_
            refine w_aload rfl rfl ?_
            refine w_getIv (x := 0) rfl rfl (hI _ fmI_46_0) ?_
            refine w_if_ne rfl (fun h => absurd (by decide) h) (fun _ => ?_)
            refine w_pushI rfl ?_
            refine w_iret rfl (Or.inl rfl) ?_
            show gW _ _ _ _ _ _ _ _ _ _
            refine w_istore rfl rfl ?_
            refine w_iload rfl rfl ?_
            refine w_if_ge rfl (fun h => absurd h (by decide)) (fun _ => ?_)
            refine w_iload rfl rfl ?_
            refine w_iret rfl (Or.inl rfl) ?_
            show gW _ _ _ _ _ _ _ _ _ _
            refine w_istore rfl rfl ?_
            refine w_iload rfl rfl ?_
            refine w_if_ge rfl (fun h => absurd h (by decide)) (fun _ => ?_)
            refine w_iload rfl rfl ?_
            refine w_iret rfl (Or.inl rfl) ?_
            exact ⟨congrArg (fun v => some (Value.int v)) (show ((-11) : Int32) = f1_ifNot (4) (1) by have e0 : (4 : Int32).toInt = 4 := rfl; have e1 : (1 : Int32).toInt = 1 := rfl; exact ite_eq_of (fun _ => rfl) (fun hc => absurd (by omega) hc)), rfl, fun x hx => rfl, fun x hx => rfl, fun x hx => rfl⟩
          · obtain rfl : a = 5 := i_is hs6 (by decide)
            refine w_aaldv (j := 5) (r := 48) rfl rfl (by decide) (by unfold vp_in; decide) (hR _ fmR_37_5) ?_
            refine w_callVi (As := [_]) (le := [some _, some _, none, none, none]) rfl rfl rfl (Nat.le_of_ble_eq_true rfl) (Nat.le_of_ble_eq_true rfl) rfl ?_
            refine w_aload rfl rfl ?_
            refine w_callVi (As := []) (le := [some _]) rfl rfl rfl (Nat.le_of_ble_eq_true rfl) (Nat.le_of_ble_eq_true rfl) rfl ?_
            refine w_aload rfl rfl ?_
            refine w_getIv (x := 0) rfl rfl (hI _ fmI_48_0) ?_
            refine w_if_ne rfl (fun h => absurd (by decide) h) (fun _ => ?_)
            refine w_pushI rfl ?_
            refine w_iret rfl (Or.inl rfl) ?_
            show gW _ _ _ _ _ _ _ _ _ _
            refine w_istore rfl rfl ?_
            refine w_iload rfl rfl ?_
            refine w_if_ge rfl (fun h => absurd h (by decide)) (fun _ => ?_)
            refine w_iload rfl rfl ?_
            refine w_iret rfl (Or.inl rfl) ?_
            show gW _ _ _ _ _ _ _ _ _ _
            refine w_istore rfl rfl ?_
            refine w_iload rfl rfl ?_
            refine w_if_ge rfl (fun h => absurd h (by decide)) (fun _ => ?_)
            refine w_iload rfl rfl ?_
            refine w_iret rfl (Or.inl rfl) ?_
            exact ⟨congrArg (fun v => some (Value.int v)) (show ((-11) : Int32) = f1_ifNot (5) (1) by have e0 : (5 : Int32).toInt = 5 := rfl; have e1 : (1 : Int32).toInt = 1 := rfl; exact ite_eq_of (fun _ => rfl) (fun hc => absurd (by omega) hc)), rfl, fun x hx => rfl, fun x hx => rfl, fun x hx => rfl⟩
set_option maxHeartbeats 40000000 in
set_option maxRecDepth 100000 in
theorem a2_ifNot {X : Nat × (Nat → Int32)} {d : Nat} {I : Nat → Nat → Int32} {L : Nat → Nat → Int64} {R : Nat → Nat → Option Nat} (hI : ∀ q ∈ gFlI, 50 ≤ q.1 → I q.1 q.2.1 = q.2.2) (hL : ∀ q ∈ gFlL, 50 ≤ q.1 → L q.1 q.2.1 = q.2.2) (hR : ∀ q ∈ gFlR, 50 ≤ q.1 → R q.1 q.2.1 = some q.2.2) (a : Int32) (b : Int32) : gW X (d + 12) 199 0 0 0 (gEn 199 [.ref 50, .int a, .int b]) [] (gK 87, I, L, R) (fun r _ => r = some (.int (f1_ifNot a b))) := by
  show gW _ _ _ _ _ _ [some (.ref 50), some (.int a), some (.int b), none] _ _ _
  refine w_iload rfl rfl ?_
  refine w_callSi (As := [_]) (le := [some _]) rfl rfl (Nat.le_of_ble_eq_true rfl) (Nat.le_of_ble_eq_true rfl) rfl ?_
  refine w_iload rfl rfl ?_
  refine w_pushI rfl ?_
  refine w_pushI rfl ?_
  refine w_callSi (As := [_, _, _]) (le := [some _, some _, some _]) rfl rfl (Nat.le_of_ble_eq_true rfl) (Nat.le_of_ble_eq_true rfl) rfl ?_
  refine w_iload rfl rfl ?_
  refine w_iload rfl rfl ?_
  refine w_icmp_ltZ (b := 0) rfl rfl (by decide) (fun h1 => ?_) (fun h1 => ?_)
  · refine w_pushI rfl ?_
    refine w_iret rfl (Or.inr ⟨rfl, by decide⟩) ?_
    show gW _ _ _ _ _ _ _ _ _ _
    refine w_iret rfl (Or.inr ⟨rfl, by decide⟩) ?_
    show gW _ _ _ _ _ _ _ _ _ _
    refine w_if_eq rfl (fun _ => ?_) (fun h => absurd (by decide) h)
    refine w_pushI rfl ?_
    refine w_iret rfl (Or.inl rfl) ?_
    exact congrArg (fun v => some (Value.int v)) (show ((-1) : Int32) = f1_ifNot a b by exact ite_eq_of (fun hc => absurd hc (by omega)) (fun _ => rfl))
  · refine w_iload rfl rfl ?_
    refine w_iload rfl rfl ?_
    refine w_icmp_gtZ (b := 5) rfl rfl (by decide) (fun h2 => ?_) (fun h2 => ?_)
    · refine w_pushI rfl ?_
      refine w_iret rfl (Or.inr ⟨rfl, by decide⟩) ?_
      show gW _ _ _ _ _ _ _ _ _ _
      refine w_iret rfl (Or.inr ⟨rfl, by decide⟩) ?_
      show gW _ _ _ _ _ _ _ _ _ _
      refine w_if_eq rfl (fun _ => ?_) (fun h => absurd (by decide) h)
      refine w_pushI rfl ?_
      refine w_iret rfl (Or.inl rfl) ?_
      exact congrArg (fun v => some (Value.int v)) (show ((-1) : Int32) = f1_ifNot a b by exact ite_eq_of (fun hc => absurd hc (by omega)) (fun _ => rfl))
    · refine w_pushI rfl ?_
      refine w_goto rfl ?_
      refine w_iret rfl (Or.inr ⟨rfl, by decide⟩) ?_
      show gW _ _ _ _ _ _ _ _ _ _
      refine w_iret rfl (Or.inr ⟨rfl, by decide⟩) ?_
      show gW _ _ _ _ _ _ _ _ _ _
      refine w_if_eq rfl (fun h => absurd h (by decide)) (fun _ => ?_)
      refine w_iload rfl rfl ?_
      refine w_pushI rfl ?_
      refine w_pushI rfl ?_
      refine w_callSi (As := [_, _, _]) (le := [some _, some _, some _]) rfl rfl (Nat.le_of_ble_eq_true rfl) (Nat.le_of_ble_eq_true rfl) rfl ?_
      refine w_iload rfl rfl ?_
      refine w_iload rfl rfl ?_
      refine w_icmp_ltZ (b := 0) rfl rfl (by decide) (fun h3 => ?_) (fun h3 => ?_)
      · refine w_pushI rfl ?_
        refine w_iret rfl (Or.inr ⟨rfl, by decide⟩) ?_
        show gW _ _ _ _ _ _ _ _ _ _
        refine w_if_ne rfl (fun h => absurd (by decide) h) (fun _ => ?_)
        refine w_pushI rfl ?_
        refine w_iret rfl (Or.inl rfl) ?_
        exact congrArg (fun v => some (Value.int v)) (show ((-1) : Int32) = f1_ifNot a b by exact ite_eq_of (fun hc => absurd hc (by omega)) (fun _ => rfl))
      · refine w_iload rfl rfl ?_
        refine w_iload rfl rfl ?_
        refine w_icmp_gtZ (b := 1) rfl rfl (by decide) (fun h4 => ?_) (fun h4 => ?_)
        · refine w_pushI rfl ?_
          refine w_iret rfl (Or.inr ⟨rfl, by decide⟩) ?_
          show gW _ _ _ _ _ _ _ _ _ _
          refine w_if_ne rfl (fun h => absurd (by decide) h) (fun _ => ?_)
          refine w_pushI rfl ?_
          refine w_iret rfl (Or.inl rfl) ?_
          exact congrArg (fun v => some (Value.int v)) (show ((-1) : Int32) = f1_ifNot a b by exact ite_eq_of (fun hc => absurd hc (by omega)) (fun _ => rfl))
        · refine w_pushI rfl ?_
          refine w_goto rfl ?_
          refine w_iret rfl (Or.inr ⟨rfl, by decide⟩) ?_
          show gW _ _ _ _ _ _ _ _ _ _
          refine w_if_ne rfl (fun _ => ?_) (fun h => absurd h (by decide))
          refine w_aload rfl rfl ?_
          refine w_iload rfl rfl ?_
          refine w_callVi (As := [_]) (le := [some _, some _]) rfl rfl rfl (Nat.le_of_ble_eq_true rfl) (Nat.le_of_ble_eq_true rfl) rfl ?_
          refine w_aload rfl rfl ?_
          refine w_getR (r := 83) rfl rfl (hR _ fmR_50_58 (by decide)) ?_
          refine w_iload rfl rfl ?_
          rcases (show a.toInt = 0 ∨ a.toInt = 1 ∨ a.toInt = 2 ∨ a.toInt = 3 ∨ a.toInt = 4 ∨ a.toInt = 5 by omega) with hs5 | hs5 | hs5 | hs5 | hs5 | hs5
          · obtain rfl : a = 0 := i_is hs5 (by decide)
            refine w_ialdv (j := 0) (x := (-1)) rfl rfl (by decide) (by unfold vp_in; decide) (hI _ fmI_83_0 (by decide)) ?_
            refine w_pushI rfl ?_
            refine w_icmp_ne rfl (fun h => absurd (by decide) h) (fun _ => ?_)
            refine w_pushI rfl ?_
            refine w_goto rfl ?_
            refine w_iret rfl (Or.inl rfl) ?_
            show gW _ _ _ _ _ _ _ _ _ _
            refine w_if_ge rfl (fun h => absurd h (by decide)) (fun _ => ?_)
            refine w_aload rfl rfl ?_
            refine w_iload rfl rfl ?_
            refine w_topv (z := 0) (by decide) ?_
            refine w_callVi (As := [_]) (le := [some _, some _]) rfl rfl rfl (Nat.le_of_ble_eq_true rfl) (Nat.le_of_ble_eq_true rfl) rfl ?_
            refine w_aload rfl rfl ?_
            refine w_getR (r := 83) rfl rfl (hR _ fmR_50_58 (by decide)) ?_
            refine w_iload rfl rfl ?_
            refine w_ialdv (j := 0) (x := (-1)) rfl rfl (by decide) (by unfold vp_in; decide) (hI _ fmI_83_0 (by decide)) ?_
            refine w_pushI rfl ?_
            refine w_icmp_ne rfl (fun h => absurd (by decide) h) (fun _ => ?_)
            refine w_pushI rfl ?_
            refine w_goto rfl ?_
            refine w_iret rfl (Or.inl rfl) ?_
            show gW _ _ _ _ _ _ _ _ _ _
            refine w_iret rfl (Or.inl rfl) ?_
            exact congrArg (fun v => some (Value.int v)) (show ((-11) : Int32) = f1_ifNot (0) b by have e0 : (0 : Int32).toInt = 0 := rfl; exact ite_eq_of (fun _ => rfl) (fun hc => absurd (by omega) hc))
          · obtain rfl : a = 1 := i_is hs5 (by decide)
            refine w_ialdv (j := 1) (x := (-1)) rfl rfl (by decide) (by unfold vp_in; decide) (hI _ fmI_83_1 (by decide)) ?_
            refine w_pushI rfl ?_
            refine w_icmp_ne rfl (fun h => absurd (by decide) h) (fun _ => ?_)
            refine w_pushI rfl ?_
            refine w_goto rfl ?_
            refine w_iret rfl (Or.inl rfl) ?_
            show gW _ _ _ _ _ _ _ _ _ _
            refine w_if_ge rfl (fun h => absurd h (by decide)) (fun _ => ?_)
            refine w_aload rfl rfl ?_
            refine w_iload rfl rfl ?_
            refine w_topv (z := 1) (by decide) ?_
            refine w_callVi (As := [_]) (le := [some _, some _]) rfl rfl rfl (Nat.le_of_ble_eq_true rfl) (Nat.le_of_ble_eq_true rfl) rfl ?_
            refine w_aload rfl rfl ?_
            refine w_getR (r := 83) rfl rfl (hR _ fmR_50_58 (by decide)) ?_
            refine w_iload rfl rfl ?_
            refine w_ialdv (j := 1) (x := (-1)) rfl rfl (by decide) (by unfold vp_in; decide) (hI _ fmI_83_1 (by decide)) ?_
            refine w_pushI rfl ?_
            refine w_icmp_ne rfl (fun h => absurd (by decide) h) (fun _ => ?_)
            refine w_pushI rfl ?_
            refine w_goto rfl ?_
            refine w_iret rfl (Or.inl rfl) ?_
            show gW _ _ _ _ _ _ _ _ _ _
            refine w_iret rfl (Or.inl rfl) ?_
            exact congrArg (fun v => some (Value.int v)) (show ((-11) : Int32) = f1_ifNot (1) b by have e0 : (1 : Int32).toInt = 1 := rfl; exact ite_eq_of (fun _ => rfl) (fun hc => absurd (by omega) hc))
          · obtain rfl : a = 2 := i_is hs5 (by decide)
            refine w_ialdv (j := 2) (x := (-1)) rfl rfl (by decide) (by unfold vp_in; decide) (hI _ fmI_83_2 (by decide)) ?_
            refine w_pushI rfl ?_
            refine w_icmp_ne rfl (fun h => absurd (by decide) h) (fun _ => ?_)
            refine w_pushI rfl ?_
            refine w_goto rfl ?_
            refine w_iret rfl (Or.inl rfl) ?_
            show gW _ _ _ _ _ _ _ _ _ _
            refine w_if_ge rfl (fun h => absurd h (by decide)) (fun _ => ?_)
            refine w_aload rfl rfl ?_
            refine w_iload rfl rfl ?_
            refine w_topv (z := 2) (by decide) ?_
            refine w_callVi (As := [_]) (le := [some _, some _]) rfl rfl rfl (Nat.le_of_ble_eq_true rfl) (Nat.le_of_ble_eq_true rfl) rfl ?_
            refine w_aload rfl rfl ?_
            refine w_getR (r := 83) rfl rfl (hR _ fmR_50_58 (by decide)) ?_
            refine w_iload rfl rfl ?_
            refine w_ialdv (j := 2) (x := (-1)) rfl rfl (by decide) (by unfold vp_in; decide) (hI _ fmI_83_2 (by decide)) ?_
            refine w_pushI rfl ?_
            refine w_icmp_ne rfl (fun h => absurd (by decide) h) (fun _ => ?_)
            refine w_pushI rfl ?_
            refine w_goto rfl ?_
            refine w_iret rfl (Or.inl rfl) ?_
            show gW _ _ _ _ _ _ _ _ _ _
            refine w_iret rfl (Or.inl rfl) ?_
            exact congrArg (fun v => some (Value.int v)) (show ((-11) : Int32) = f1_ifNot (2) b by have e0 : (2 : Int32).toInt = 2 := rfl; exact ite_eq_of (fun _ => rfl) (fun hc => absurd (by omega) hc))
          · obtain rfl : a = 3 := i_is hs5 (by decide)
            refine w_ialdv (j := 3) (x := (-1)) rfl rfl (by decide) (by unfold vp_in; decide) (hI _ fmI_83_3 (by decide)) ?_
            refine w_pushI rfl ?_
            refine w_icmp_ne rfl (fun h => absurd (by decide) h) (fun _ => ?_)
            refine w_pushI rfl ?_
            refine w_goto rfl ?_
            refine w_iret rfl (Or.inl rfl) ?_
            show gW _ _ _ _ _ _ _ _ _ _
            refine w_if_ge rfl (fun h => absurd h (by decide)) (fun _ => ?_)
            refine w_aload rfl rfl ?_
            refine w_iload rfl rfl ?_
            refine w_topv (z := 3) (by decide) ?_
            refine w_callVi (As := [_]) (le := [some _, some _]) rfl rfl rfl (Nat.le_of_ble_eq_true rfl) (Nat.le_of_ble_eq_true rfl) rfl ?_
            refine w_aload rfl rfl ?_
            refine w_getR (r := 83) rfl rfl (hR _ fmR_50_58 (by decide)) ?_
            refine w_iload rfl rfl ?_
            refine w_ialdv (j := 3) (x := (-1)) rfl rfl (by decide) (by unfold vp_in; decide) (hI _ fmI_83_3 (by decide)) ?_
            refine w_pushI rfl ?_
            refine w_icmp_ne rfl (fun h => absurd (by decide) h) (fun _ => ?_)
            refine w_pushI rfl ?_
            refine w_goto rfl ?_
            refine w_iret rfl (Or.inl rfl) ?_
            show gW _ _ _ _ _ _ _ _ _ _
            refine w_iret rfl (Or.inl rfl) ?_
            exact congrArg (fun v => some (Value.int v)) (show ((-11) : Int32) = f1_ifNot (3) b by have e0 : (3 : Int32).toInt = 3 := rfl; exact ite_eq_of (fun _ => rfl) (fun hc => absurd (by omega) hc))
          · obtain rfl : a = 4 := i_is hs5 (by decide)
            refine w_ialdv (j := 4) (x := (-1)) rfl rfl (by decide) (by unfold vp_in; decide) (hI _ fmI_83_4 (by decide)) ?_
            refine w_pushI rfl ?_
            refine w_icmp_ne rfl (fun h => absurd (by decide) h) (fun _ => ?_)
            refine w_pushI rfl ?_
            refine w_goto rfl ?_
            refine w_iret rfl (Or.inl rfl) ?_
            show gW _ _ _ _ _ _ _ _ _ _
            refine w_if_ge rfl (fun h => absurd h (by decide)) (fun _ => ?_)
            refine w_aload rfl rfl ?_
            refine w_iload rfl rfl ?_
            refine w_topv (z := 4) (by decide) ?_
            refine w_callVi (As := [_]) (le := [some _, some _]) rfl rfl rfl (Nat.le_of_ble_eq_true rfl) (Nat.le_of_ble_eq_true rfl) rfl ?_
            refine w_aload rfl rfl ?_
            refine w_getR (r := 83) rfl rfl (hR _ fmR_50_58 (by decide)) ?_
            refine w_iload rfl rfl ?_
            refine w_ialdv (j := 4) (x := (-1)) rfl rfl (by decide) (by unfold vp_in; decide) (hI _ fmI_83_4 (by decide)) ?_
            refine w_pushI rfl ?_
            refine w_icmp_ne rfl (fun h => absurd (by decide) h) (fun _ => ?_)
            refine w_pushI rfl ?_
            refine w_goto rfl ?_
            refine w_iret rfl (Or.inl rfl) ?_
            show gW _ _ _ _ _ _ _ _ _ _
            refine w_iret rfl (Or.inl rfl) ?_
            exact congrArg (fun v => some (Value.int v)) (show ((-11) : Int32) = f1_ifNot (4) b by have e0 : (4 : Int32).toInt = 4 := rfl; exact ite_eq_of (fun _ => rfl) (fun hc => absurd (by omega) hc))
          · obtain rfl : a = 5 := i_is hs5 (by decide)
            refine w_ialdv (j := 5) (x := (-1)) rfl rfl (by decide) (by unfold vp_in; decide) (hI _ fmI_83_5 (by decide)) ?_
            refine w_pushI rfl ?_
            refine w_icmp_ne rfl (fun h => absurd (by decide) h) (fun _ => ?_)
            refine w_pushI rfl ?_
            refine w_goto rfl ?_
            refine w_iret rfl (Or.inl rfl) ?_
            show gW _ _ _ _ _ _ _ _ _ _
            refine w_if_ge rfl (fun h => absurd h (by decide)) (fun _ => ?_)
            refine w_aload rfl rfl ?_
            refine w_iload rfl rfl ?_
            refine w_topv (z := 5) (by decide) ?_
            refine w_callVi (As := [_]) (le := [some _, some _]) rfl rfl rfl (Nat.le_of_ble_eq_true rfl) (Nat.le_of_ble_eq_true rfl) rfl ?_
            refine w_aload rfl rfl ?_
            refine w_getR (r := 83) rfl rfl (hR _ fmR_50_58 (by decide)) ?_
            refine w_iload rfl rfl ?_
            refine w_ialdv (j := 5) (x := (-1)) rfl rfl (by decide) (by unfold vp_in; decide) (hI _ fmI_83_5 (by decide)) ?_
            refine w_pushI rfl ?_
            refine w_icmp_ne rfl (fun h => absurd (by decide) h) (fun _ => ?_)
            refine w_pushI rfl ?_
            refine w_goto rfl ?_
            refine w_iret rfl (Or.inl rfl) ?_
            show gW _ _ _ _ _ _ _ _ _ _
            refine w_iret rfl (Or.inl rfl) ?_
            exact congrArg (fun v => some (Value.int v)) (show ((-11) : Int32) = f1_ifNot (5) b by have e0 : (5 : Int32).toInt = 5 := rfl; exact ite_eq_of (fun _ => rfl) (fun hc => absurd (by omega) hc))
set_option maxHeartbeats 40000000 in
set_option maxRecDepth 100000 in
theorem a1_by {X : Nat × (Nat → Int32)} {d : Nat} {I : Nat → Nat → Int32} {L : Nat → Nat → Int64} {R : Nat → Nat → Option Nat} (hI : ∀ q ∈ gFlI, I q.1 q.2.1 = q.2.2) (hL : ∀ q ∈ gFlL, L q.1 q.2.1 = q.2.2) (hR : ∀ q ∈ gFlR, R q.1 q.2.1 = some q.2.2) (a : Int32) (b : Int32) : gW X (d + 12) 111 0 0 0 (gEn 111 [.ref 0, .int a, .int b]) [] (gK 87, I, L, R) (fun r σ => r = some (.int (f1_by a b)) ∧ gFr σ I L R) := by
  show gW _ _ _ _ _ _ [some (.ref 0), some (.int a), some (.int b), none] _ _ _
  refine w_iload rfl rfl ?_
  refine w_callSi (As := [_]) (le := [some _]) rfl rfl (Nat.le_of_ble_eq_true rfl) (Nat.le_of_ble_eq_true rfl) rfl ?_
  refine w_iload rfl rfl ?_
  refine w_if_ltZ rfl rfl (fun h1 => ?_) (fun h1 => ?_)
  · refine w_pushI rfl ?_
    refine w_iret rfl (Or.inr ⟨rfl, by decide⟩) ?_
    show gW _ _ _ _ _ _ _ _ _ _
    refine w_if_eq rfl (fun _ => ?_) (fun h => absurd (by decide) h)
    refine w_pushI rfl ?_
    refine w_iret rfl (Or.inl rfl) ?_
    exact ⟨congrArg (fun v => some (Value.int v)) (show ((-1) : Int32) = f1_by a b by exact ite_eq_of (fun hc => absurd hc (by omega)) (fun _ => rfl)), rfl, fun x hx => rfl, fun x hx => rfl, fun x hx => rfl⟩
  · refine w_iload rfl rfl ?_
    refine w_pushI rfl ?_
    refine w_icmp_geZ (b := 6) rfl rfl (by decide) (fun h2 => ?_) (fun h2 => ?_)
    · refine w_pushI rfl ?_
      refine w_iret rfl (Or.inr ⟨rfl, by decide⟩) ?_
      show gW _ _ _ _ _ _ _ _ _ _
      refine w_if_eq rfl (fun _ => ?_) (fun h => absurd (by decide) h)
      refine w_pushI rfl ?_
      refine w_iret rfl (Or.inl rfl) ?_
      exact ⟨congrArg (fun v => some (Value.int v)) (show ((-1) : Int32) = f1_by a b by exact ite_eq_of (fun hc => absurd hc (by omega)) (fun _ => rfl)), rfl, fun x hx => rfl, fun x hx => rfl, fun x hx => rfl⟩
    · refine w_pushI rfl ?_
      refine w_goto rfl ?_
      refine w_iret rfl (Or.inr ⟨rfl, by decide⟩) ?_
      show gW _ _ _ _ _ _ _ _ _ _
      refine w_if_eq rfl (fun h => absurd h (by decide)) (fun _ => ?_)
      refine w_iload rfl rfl ?_
      refine w_if_ltZ rfl rfl (fun h3 => ?_) (fun h3 => ?_)
      · refine w_pushI rfl ?_
        refine w_iret rfl (Or.inl rfl) ?_
        exact ⟨congrArg (fun v => some (Value.int v)) (show ((-1) : Int32) = f1_by a b by exact ite_eq_of (fun hc => absurd hc (by omega)) (fun _ => rfl)), rfl, fun x hx => rfl, fun x hx => rfl, fun x hx => rfl⟩
      · refine w_iload rfl rfl ?_
        refine w_pushI rfl ?_
        refine w_icmp_leZ (b := 1000000) rfl rfl (by decide) (fun h4 => ?_) (fun h4 => ?_)
        · refine w_aload rfl rfl ?_
          refine w_getR (r := 10) rfl rfl (hR _ fmR_0_2) ?_
          refine w_iload rfl rfl ?_
          refine w_callVi (As := [_]) (le := [some _, some _]) rfl rfl rfl (Nat.le_of_ble_eq_true rfl) (Nat.le_of_ble_eq_true rfl) rfl ?_
          refine w_aload rfl rfl ?_
          refine w_iload rfl rfl ?_
          refine w_putI rfl rfl ?_
          refine w_vret rfl rfl ?_
          show gW _ _ _ _ _ _ _ _ _ _
          refine w_aload rfl rfl ?_
          refine w_getR (r := 10) rfl rfl (hR _ fmR_0_2) ?_
          refine w_aload rfl rfl ?_
          refine w_getR (r := 37) rfl rfl (hR _ fmR_0_11) ?_
          refine w_iload rfl rfl ?_
          rcases (show a.toInt = 0 ∨ a.toInt = 1 ∨ a.toInt = 2 ∨ a.toInt = 3 ∨ a.toInt = 4 ∨ a.toInt = 5 by omega) with hs5 | hs5 | hs5 | hs5 | hs5 | hs5
          · obtain rfl : a = 0 := i_is hs5 (by decide)
            refine w_aaldv (j := 0) (r := 38) rfl rfl (by decide) (by unfold vp_in; decide) (hR _ fmR_37_0) ?_
            refine w_callVi (As := [_]) (le := [some _, some _, none, none, none]) rfl rfl rfl (Nat.le_of_ble_eq_true rfl) (Nat.le_of_ble_eq_true rfl) rfl ?_
            refine w_aload rfl rfl ?_
            refine w_callVi (As := []) (le := [some _]) rfl rfl rfl (Nat.le_of_ble_eq_true rfl) (Nat.le_of_ble_eq_true rfl) rfl ?_
            refine w_aload rfl rfl ?_
            refine w_getIv (x := 0) rfl rfl ((gU_n (by decide)).trans (hI _ fmI_38_0)) ?_
            refine w_if_ne rfl (fun h => absurd (by decide) h) (fun _ => ?_)
            refine w_pushI rfl ?_
            refine w_iret rfl (Or.inl rfl) ?_
            show gW _ _ _ _ _ _ _ _ _ _
            refine w_istore rfl rfl ?_
            refine w_iload rfl rfl ?_
            refine w_if_ge rfl (fun h => absurd h (by decide)) (fun _ => ?_)
            refine w_iload rfl rfl ?_
            refine w_iret rfl (Or.inl rfl) ?_
            show gW _ _ _ _ _ _ _ _ _ _
            refine w_istore rfl rfl ?_
            refine w_iload rfl rfl ?_
            refine w_if_ge rfl (fun h => absurd h (by decide)) (fun _ => ?_)
            refine w_iload rfl rfl ?_
            refine w_goto rfl ?_
            refine w_iret rfl (Or.inl rfl) ?_
            exact ⟨congrArg (fun v => some (Value.int v)) (show ((-11) : Int32) = f1_by (0) b by have e0 : (0 : Int32).toInt = 0 := rfl; exact ite_eq_of (fun _ => rfl) (fun hc => absurd (by omega) hc)), rfl, fun x hx => gU_o (by omega), fun x hx => rfl, fun x hx => rfl⟩
          · obtain rfl : a = 1 := i_is hs5 (by decide)
            refine w_aaldv (j := 1) (r := 40) rfl rfl (by decide) (by unfold vp_in; decide) (hR _ fmR_37_1) ?_
            refine w_callVi (As := [_]) (le := [some _, some _, none, none, none]) rfl rfl rfl (Nat.le_of_ble_eq_true rfl) (Nat.le_of_ble_eq_true rfl) rfl ?_
            refine w_aload rfl rfl ?_
            refine w_callVi (As := []) (le := [some _]) rfl rfl rfl (Nat.le_of_ble_eq_true rfl) (Nat.le_of_ble_eq_true rfl) rfl ?_
            refine w_aload rfl rfl ?_
            refine w_getIv (x := 0) rfl rfl ((gU_n (by decide)).trans (hI _ fmI_40_0)) ?_
            refine w_if_ne rfl (fun h => absurd (by decide) h) (fun _ => ?_)
            refine w_pushI rfl ?_
            refine w_iret rfl (Or.inl rfl) ?_
            show gW _ _ _ _ _ _ _ _ _ _
            refine w_istore rfl rfl ?_
            refine w_iload rfl rfl ?_
            refine w_if_ge rfl (fun h => absurd h (by decide)) (fun _ => ?_)
            refine w_iload rfl rfl ?_
            refine w_iret rfl (Or.inl rfl) ?_
            show gW _ _ _ _ _ _ _ _ _ _
            refine w_istore rfl rfl ?_
            refine w_iload rfl rfl ?_
            refine w_if_ge rfl (fun h => absurd h (by decide)) (fun _ => ?_)
            refine w_iload rfl rfl ?_
            refine w_goto rfl ?_
            refine w_iret rfl (Or.inl rfl) ?_
            exact ⟨congrArg (fun v => some (Value.int v)) (show ((-11) : Int32) = f1_by (1) b by have e0 : (1 : Int32).toInt = 1 := rfl; exact ite_eq_of (fun _ => rfl) (fun hc => absurd (by omega) hc)), rfl, fun x hx => gU_o (by omega), fun x hx => rfl, fun x hx => rfl⟩
          · obtain rfl : a = 2 := i_is hs5 (by decide)
            refine w_aaldv (j := 2) (r := 42) rfl rfl (by decide) (by unfold vp_in; decide) (hR _ fmR_37_2) ?_
            refine w_callVi (As := [_]) (le := [some _, some _, none, none, none]) rfl rfl rfl (Nat.le_of_ble_eq_true rfl) (Nat.le_of_ble_eq_true rfl) rfl ?_
            refine w_aload rfl rfl ?_
            refine w_callVi (As := []) (le := [some _]) rfl rfl rfl (Nat.le_of_ble_eq_true rfl) (Nat.le_of_ble_eq_true rfl) rfl ?_
            refine w_aload rfl rfl ?_
            refine w_getIv (x := 0) rfl rfl ((gU_n (by decide)).trans (hI _ fmI_42_0)) ?_
            refine w_if_ne rfl (fun h => absurd (by decide) h) (fun _ => ?_)
            refine w_pushI rfl ?_
            refine w_iret rfl (Or.inl rfl) ?_
            show gW _ _ _ _ _ _ _ _ _ _
            refine w_istore rfl rfl ?_
            refine w_iload rfl rfl ?_
            refine w_if_ge rfl (fun h => absurd h (by decide)) (fun _ => ?_)
            refine w_iload rfl rfl ?_
            refine w_iret rfl (Or.inl rfl) ?_
            show gW _ _ _ _ _ _ _ _ _ _
            refine w_istore rfl rfl ?_
            refine w_iload rfl rfl ?_
            refine w_if_ge rfl (fun h => absurd h (by decide)) (fun _ => ?_)
            refine w_iload rfl rfl ?_
            refine w_goto rfl ?_
            refine w_iret rfl (Or.inl rfl) ?_
            exact ⟨congrArg (fun v => some (Value.int v)) (show ((-11) : Int32) = f1_by (2) b by have e0 : (2 : Int32).toInt = 2 := rfl; exact ite_eq_of (fun _ => rfl) (fun hc => absurd (by omega) hc)), rfl, fun x hx => gU_o (by omega), fun x hx => rfl, fun x hx => rfl⟩
          · obtain rfl : a = 3 := i_is hs5 (by decide)
            refine w_aaldv (j := 3) (r := 44) rfl rfl (by decide) (by unfold vp_in; decide) (hR _ fmR_37_3) ?_
            refine w_callVi (As := [_]) (le := [some _, some _, none, none, none]) rfl rfl rfl (Nat.le_of_ble_eq_true rfl) (Nat.le_of_ble_eq_true rfl) rfl ?_
            refine w_aload rfl rfl ?_
            refine w_callVi (As := []) (le := [some _]) rfl rfl rfl (Nat.le_of_ble_eq_true rfl) (Nat.le_of_ble_eq_true rfl) rfl ?_
            refine w_aload rfl rfl ?_
            refine w_getIv (x := 0) rfl rfl ((gU_n (by decide)).trans (hI _ fmI_44_0)) ?_
            refine w_if_ne rfl (fun h => absurd (by decide) h) (fun _ => ?_)
            refine w_pushI rfl ?_
            refine w_iret rfl (Or.inl rfl) ?_
            show gW _ _ _ _ _ _ _ _ _ _
            refine w_istore rfl rfl ?_
            refine w_iload rfl rfl ?_
            refine w_if_ge rfl (fun h => absurd h (by decide)) (fun _ => ?_)
            refine w_iload rfl rfl ?_
            refine w_iret rfl (Or.inl rfl) ?_
            show gW _ _ _ _ _ _ _ _ _ _
            refine w_istore rfl rfl ?_
            refine w_iload rfl rfl ?_
            refine w_if_ge rfl (fun h => absurd h (by decide)) (fun _ => ?_)
            refine w_iload rfl rfl ?_
            refine w_goto rfl ?_
            refine w_iret rfl (Or.inl rfl) ?_
            exact ⟨congrArg (fun v => some (Value.int v)) (show ((-11) : Int32) = f1_by (3) b by have e0 : (3 : Int32).toInt = 3 := rfl; exact ite_eq_of (fun _ => rfl) (fun hc => absurd (by omega) hc)), rfl, fun x hx => gU_o (by omega), fun x hx => rfl, fun x hx => rfl⟩
          · obtain rfl : a = 4 := i_is hs5 (by decide)
            refine w_aaldv (j := 4) (r := 46) rfl rfl (by decide) (by unfold vp_in; decide) (hR _ fmR_37_4) ?_
            refine w_callVi (As := [_]) (le := [some _, some _, none, none, none]) rfl rfl rfl (Nat.le_of_ble_eq_true rfl) (Nat.le_of_ble_eq_true rfl) rfl ?_
            refine w_aload rfl rfl ?_
            refine w_callVi (As := []) (le := [some _]) rfl rfl rfl (Nat.le_of_ble_eq_true rfl) (Nat.le_of_ble_eq_true rfl) rfl ?_
            refine w_aload rfl rfl ?_
            refine w_getIv (x := 0) rfl rfl ((gU_n (by decide)).trans (hI _ fmI_46_0)) ?_
            refine w_if_ne rfl (fun h => absurd (by decide) h) (fun _ => ?_)
            refine w_pushI rfl ?_
            refine w_iret rfl (Or.inl rfl) ?_
            show gW _ _ _ _ _ _ _ _ _ _
            refine w_istore rfl rfl ?_
            refine w_iload rfl rfl ?_
            refine w_if_ge rfl (fun h => absurd h (by decide)) (fun _ => ?_)
            refine w_iload rfl rfl ?_
            refine w_iret rfl (Or.inl rfl) ?_
            show gW _ _ _ _ _ _ _ _ _ _
            refine w_istore rfl rfl ?_
            refine w_iload rfl rfl ?_
            refine w_if_ge rfl (fun h => absurd h (by decide)) (fun _ => ?_)
            refine w_iload rfl rfl ?_
            refine w_goto rfl ?_
            refine w_iret rfl (Or.inl rfl) ?_
            exact ⟨congrArg (fun v => some (Value.int v)) (show ((-11) : Int32) = f1_by (4) b by have e0 : (4 : Int32).toInt = 4 := rfl; exact ite_eq_of (fun _ => rfl) (fun hc => absurd (by omega) hc)), rfl, fun x hx => gU_o (by omega), fun x hx => rfl, fun x hx => rfl⟩
          · obtain rfl : a = 5 := i_is hs5 (by decide)
            refine w_aaldv (j := 5) (r := 48) rfl rfl (by decide) (by unfold vp_in; decide) (hR _ fmR_37_5) ?_
            refine w_callVi (As := [_]) (le := [some _, some _, none, none, none]) rfl rfl rfl (Nat.le_of_ble_eq_true rfl) (Nat.le_of_ble_eq_true rfl) rfl ?_
            refine w_aload rfl rfl ?_
            refine w_callVi (As := []) (le := [some _]) rfl rfl rfl (Nat.le_of_ble_eq_true rfl) (Nat.le_of_ble_eq_true rfl) rfl ?_
            refine w_aload rfl rfl ?_
            refine w_getIv (x := 0) rfl rfl ((gU_n (by decide)).trans (hI _ fmI_48_0)) ?_
            refine w_if_ne rfl (fun h => absurd (by decide) h) (fun _ => ?_)
            refine w_pushI rfl ?_
            refine w_iret rfl (Or.inl rfl) ?_
            show gW _ _ _ _ _ _ _ _ _ _
            refine w_istore rfl rfl ?_
            refine w_iload rfl rfl ?_
            refine w_if_ge rfl (fun h => absurd h (by decide)) (fun _ => ?_)
            refine w_iload rfl rfl ?_
            refine w_iret rfl (Or.inl rfl) ?_
            show gW _ _ _ _ _ _ _ _ _ _
            refine w_istore rfl rfl ?_
            refine w_iload rfl rfl ?_
            refine w_if_ge rfl (fun h => absurd h (by decide)) (fun _ => ?_)
            refine w_iload rfl rfl ?_
            refine w_goto rfl ?_
            refine w_iret rfl (Or.inl rfl) ?_
            exact ⟨congrArg (fun v => some (Value.int v)) (show ((-11) : Int32) = f1_by (5) b by have e0 : (5 : Int32).toInt = 5 := rfl; exact ite_eq_of (fun _ => rfl) (fun hc => absurd (by omega) hc)), rfl, fun x hx => gU_o (by omega), fun x hx => rfl, fun x hx => rfl⟩
        · refine w_pushI rfl ?_
          refine w_iret rfl (Or.inl rfl) ?_
          exact ⟨congrArg (fun v => some (Value.int v)) (show ((-1) : Int32) = f1_by a b by exact ite_eq_of (fun hc => absurd hc (by omega)) (fun _ => rfl)), rfl, fun x hx => rfl, fun x hx => rfl, fun x hx => rfl⟩
set_option maxHeartbeats 40000000 in
set_option maxRecDepth 100000 in
theorem a2_by {X : Nat × (Nat → Int32)} {d : Nat} {I : Nat → Nat → Int32} {L : Nat → Nat → Int64} {R : Nat → Nat → Option Nat} (hI : ∀ q ∈ gFlI, 50 ≤ q.1 → I q.1 q.2.1 = q.2.2) (hL : ∀ q ∈ gFlL, 50 ≤ q.1 → L q.1 q.2.1 = q.2.2) (hR : ∀ q ∈ gFlR, 50 ≤ q.1 → R q.1 q.2.1 = some q.2.2) (a : Int32) (b : Int32) : gW X (d + 12) 200 0 0 0 (gEn 200 [.ref 50, .int a, .int b]) [] (gK 87, I, L, R) (fun r _ => r = some (.int (f1_by a b))) := by
  show gW _ _ _ _ _ _ [some (.ref 50), some (.int a), some (.int b)] _ _ _
  refine w_iload rfl rfl ?_
  refine w_callSi (As := [_]) (le := [some _]) rfl rfl (Nat.le_of_ble_eq_true rfl) (Nat.le_of_ble_eq_true rfl) rfl ?_
  refine w_iload rfl rfl ?_
  refine w_pushI rfl ?_
  refine w_pushI rfl ?_
  refine w_callSi (As := [_, _, _]) (le := [some _, some _, some _]) rfl rfl (Nat.le_of_ble_eq_true rfl) (Nat.le_of_ble_eq_true rfl) rfl ?_
  refine w_iload rfl rfl ?_
  refine w_iload rfl rfl ?_
  refine w_icmp_ltZ (b := 0) rfl rfl (by decide) (fun h1 => ?_) (fun h1 => ?_)
  · refine w_pushI rfl ?_
    refine w_iret rfl (Or.inr ⟨rfl, by decide⟩) ?_
    show gW _ _ _ _ _ _ _ _ _ _
    refine w_iret rfl (Or.inr ⟨rfl, by decide⟩) ?_
    show gW _ _ _ _ _ _ _ _ _ _
    refine w_if_eq rfl (fun _ => ?_) (fun h => absurd (by decide) h)
    refine w_pushI rfl ?_
    refine w_iret rfl (Or.inl rfl) ?_
    exact congrArg (fun v => some (Value.int v)) (show ((-1) : Int32) = f1_by a b by exact ite_eq_of (fun hc => absurd hc (by omega)) (fun _ => rfl))
  · refine w_iload rfl rfl ?_
    refine w_iload rfl rfl ?_
    refine w_icmp_gtZ (b := 5) rfl rfl (by decide) (fun h2 => ?_) (fun h2 => ?_)
    · refine w_pushI rfl ?_
      refine w_iret rfl (Or.inr ⟨rfl, by decide⟩) ?_
      show gW _ _ _ _ _ _ _ _ _ _
      refine w_iret rfl (Or.inr ⟨rfl, by decide⟩) ?_
      show gW _ _ _ _ _ _ _ _ _ _
      refine w_if_eq rfl (fun _ => ?_) (fun h => absurd (by decide) h)
      refine w_pushI rfl ?_
      refine w_iret rfl (Or.inl rfl) ?_
      exact congrArg (fun v => some (Value.int v)) (show ((-1) : Int32) = f1_by a b by exact ite_eq_of (fun hc => absurd hc (by omega)) (fun _ => rfl))
    · refine w_pushI rfl ?_
      refine w_goto rfl ?_
      refine w_iret rfl (Or.inr ⟨rfl, by decide⟩) ?_
      show gW _ _ _ _ _ _ _ _ _ _
      refine w_iret rfl (Or.inr ⟨rfl, by decide⟩) ?_
      show gW _ _ _ _ _ _ _ _ _ _
      refine w_if_eq rfl (fun h => absurd h (by decide)) (fun _ => ?_)
      refine w_iload rfl rfl ?_
      refine w_pushI rfl ?_
      refine w_pushI rfl ?_
      refine w_callSi (As := [_, _, _]) (le := [some _, some _, some _]) rfl rfl (Nat.le_of_ble_eq_true rfl) (Nat.le_of_ble_eq_true rfl) rfl ?_
      refine w_iload rfl rfl ?_
      refine w_iload rfl rfl ?_
      refine w_icmp_ltZ (b := 0) rfl rfl (by decide) (fun h3 => ?_) (fun h3 => ?_)
      · refine w_pushI rfl ?_
        refine w_iret rfl (Or.inr ⟨rfl, by decide⟩) ?_
        show gW _ _ _ _ _ _ _ _ _ _
        refine w_if_ne rfl (fun h => absurd (by decide) h) (fun _ => ?_)
        refine w_pushI rfl ?_
        refine w_iret rfl (Or.inl rfl) ?_
        exact congrArg (fun v => some (Value.int v)) (show ((-1) : Int32) = f1_by a b by exact ite_eq_of (fun hc => absurd hc (by omega)) (fun _ => rfl))
      · refine w_iload rfl rfl ?_
        refine w_iload rfl rfl ?_
        refine w_icmp_gtZ (b := 1000000) rfl rfl (by decide) (fun h4 => ?_) (fun h4 => ?_)
        · refine w_pushI rfl ?_
          refine w_iret rfl (Or.inr ⟨rfl, by decide⟩) ?_
          show gW _ _ _ _ _ _ _ _ _ _
          refine w_if_ne rfl (fun h => absurd (by decide) h) (fun _ => ?_)
          refine w_pushI rfl ?_
          refine w_iret rfl (Or.inl rfl) ?_
          exact congrArg (fun v => some (Value.int v)) (show ((-1) : Int32) = f1_by a b by exact ite_eq_of (fun hc => absurd hc (by omega)) (fun _ => rfl))
        · refine w_pushI rfl ?_
          refine w_goto rfl ?_
          refine w_iret rfl (Or.inr ⟨rfl, by decide⟩) ?_
          show gW _ _ _ _ _ _ _ _ _ _
          refine w_if_ne rfl (fun _ => ?_) (fun h => absurd h (by decide))
          refine w_aload rfl rfl ?_
          refine w_iload rfl rfl ?_
          refine w_callVi (As := [_]) (le := [some _, some _]) rfl rfl rfl (Nat.le_of_ble_eq_true rfl) (Nat.le_of_ble_eq_true rfl) rfl ?_
          refine w_aload rfl rfl ?_
          refine w_getR (r := 83) rfl rfl (hR _ fmR_50_58 (by decide)) ?_
          refine w_iload rfl rfl ?_
          rcases (show a.toInt = 0 ∨ a.toInt = 1 ∨ a.toInt = 2 ∨ a.toInt = 3 ∨ a.toInt = 4 ∨ a.toInt = 5 by omega) with hs5 | hs5 | hs5 | hs5 | hs5 | hs5
          · obtain rfl : a = 0 := i_is hs5 (by decide)
            refine w_ialdv (j := 0) (x := (-1)) rfl rfl (by decide) (by unfold vp_in; decide) (hI _ fmI_83_0 (by decide)) ?_
            refine w_pushI rfl ?_
            refine w_icmp_ne rfl (fun h => absurd (by decide) h) (fun _ => ?_)
            refine w_pushI rfl ?_
            refine w_goto rfl ?_
            refine w_iret rfl (Or.inl rfl) ?_
            show gW _ _ _ _ _ _ _ _ _ _
            refine w_if_ge rfl (fun h => absurd h (by decide)) (fun _ => ?_)
            refine w_aload rfl rfl ?_
            refine w_iload rfl rfl ?_
            refine w_topv (z := 0) (by decide) ?_
            refine w_callVi (As := [_]) (le := [some _, some _]) rfl rfl rfl (Nat.le_of_ble_eq_true rfl) (Nat.le_of_ble_eq_true rfl) rfl ?_
            refine w_aload rfl rfl ?_
            refine w_getR (r := 83) rfl rfl (hR _ fmR_50_58 (by decide)) ?_
            refine w_iload rfl rfl ?_
            refine w_ialdv (j := 0) (x := (-1)) rfl rfl (by decide) (by unfold vp_in; decide) (hI _ fmI_83_0 (by decide)) ?_
            refine w_pushI rfl ?_
            refine w_icmp_ne rfl (fun h => absurd (by decide) h) (fun _ => ?_)
            refine w_pushI rfl ?_
            refine w_goto rfl ?_
            refine w_iret rfl (Or.inl rfl) ?_
            show gW _ _ _ _ _ _ _ _ _ _
            refine w_iret rfl (Or.inl rfl) ?_
            exact congrArg (fun v => some (Value.int v)) (show ((-11) : Int32) = f1_by (0) b by have e0 : (0 : Int32).toInt = 0 := rfl; exact ite_eq_of (fun _ => rfl) (fun hc => absurd (by omega) hc))
          · obtain rfl : a = 1 := i_is hs5 (by decide)
            refine w_ialdv (j := 1) (x := (-1)) rfl rfl (by decide) (by unfold vp_in; decide) (hI _ fmI_83_1 (by decide)) ?_
            refine w_pushI rfl ?_
            refine w_icmp_ne rfl (fun h => absurd (by decide) h) (fun _ => ?_)
            refine w_pushI rfl ?_
            refine w_goto rfl ?_
            refine w_iret rfl (Or.inl rfl) ?_
            show gW _ _ _ _ _ _ _ _ _ _
            refine w_if_ge rfl (fun h => absurd h (by decide)) (fun _ => ?_)
            refine w_aload rfl rfl ?_
            refine w_iload rfl rfl ?_
            refine w_topv (z := 1) (by decide) ?_
            refine w_callVi (As := [_]) (le := [some _, some _]) rfl rfl rfl (Nat.le_of_ble_eq_true rfl) (Nat.le_of_ble_eq_true rfl) rfl ?_
            refine w_aload rfl rfl ?_
            refine w_getR (r := 83) rfl rfl (hR _ fmR_50_58 (by decide)) ?_
            refine w_iload rfl rfl ?_
            refine w_ialdv (j := 1) (x := (-1)) rfl rfl (by decide) (by unfold vp_in; decide) (hI _ fmI_83_1 (by decide)) ?_
            refine w_pushI rfl ?_
            refine w_icmp_ne rfl (fun h => absurd (by decide) h) (fun _ => ?_)
            refine w_pushI rfl ?_
            refine w_goto rfl ?_
            refine w_iret rfl (Or.inl rfl) ?_
            show gW _ _ _ _ _ _ _ _ _ _
            refine w_iret rfl (Or.inl rfl) ?_
            exact congrArg (fun v => some (Value.int v)) (show ((-11) : Int32) = f1_by (1) b by have e0 : (1 : Int32).toInt = 1 := rfl; exact ite_eq_of (fun _ => rfl) (fun hc => absurd (by omega) hc))
          · obtain rfl : a = 2 := i_is hs5 (by decide)
            refine w_ialdv (j := 2) (x := (-1)) rfl rfl (by decide) (by unfold vp_in; decide) (hI _ fmI_83_2 (by decide)) ?_
            refine w_pushI rfl ?_
            refine w_icmp_ne rfl (fun h => absurd (by decide) h) (fun _ => ?_)
            refine w_pushI rfl ?_
            refine w_goto rfl ?_
            refine w_iret rfl (Or.inl rfl) ?_
            show gW _ _ _ _ _ _ _ _ _ _
            refine w_if_ge rfl (fun h => absurd h (by decide)) (fun _ => ?_)
            refine w_aload rfl rfl ?_
            refine w_iload rfl rfl ?_
            refine w_topv (z := 2) (by decide) ?_
            refine w_callVi (As := [_]) (le := [some _, some _]) rfl rfl rfl (Nat.le_of_ble_eq_true rfl) (Nat.le_of_ble_eq_true rfl) rfl ?_
            refine w_aload rfl rfl ?_
            refine w_getR (r := 83) rfl rfl (hR _ fmR_50_58 (by decide)) ?_
            refine w_iload rfl rfl ?_
            refine w_ialdv (j := 2) (x := (-1)) rfl rfl (by decide) (by unfold vp_in; decide) (hI _ fmI_83_2 (by decide)) ?_
            refine w_pushI rfl ?_
            refine w_icmp_ne rfl (fun h => absurd (by decide) h) (fun _ => ?_)
            refine w_pushI rfl ?_
            refine w_goto rfl ?_
            refine w_iret rfl (Or.inl rfl) ?_
            show gW _ _ _ _ _ _ _ _ _ _
            refine w_iret rfl (Or.inl rfl) ?_
            exact congrArg (fun v => some (Value.int v)) (show ((-11) : Int32) = f1_by (2) b by have e0 : (2 : Int32).toInt = 2 := rfl; exact ite_eq_of (fun _ => rfl) (fun hc => absurd (by omega) hc))
          · obtain rfl : a = 3 := i_is hs5 (by decide)
            refine w_ialdv (j := 3) (x := (-1)) rfl rfl (by decide) (by unfold vp_in; decide) (hI _ fmI_83_3 (by decide)) ?_
            refine w_pushI rfl ?_
            refine w_icmp_ne rfl (fun h => absurd (by decide) h) (fun _ => ?_)
            refine w_pushI rfl ?_
            refine w_goto rfl ?_
            refine w_iret rfl (Or.inl rfl) ?_
            show gW _ _ _ _ _ _ _ _ _ _
            refine w_if_ge rfl (fun h => absurd h (by decide)) (fun _ => ?_)
            refine w_aload rfl rfl ?_
            refine w_iload rfl rfl ?_
            refine w_topv (z := 3) (by decide) ?_
            refine w_callVi (As := [_]) (le := [some _, some _]) rfl rfl rfl (Nat.le_of_ble_eq_true rfl) (Nat.le_of_ble_eq_true rfl) rfl ?_
            refine w_aload rfl rfl ?_
            refine w_getR (r := 83) rfl rfl (hR _ fmR_50_58 (by decide)) ?_
            refine w_iload rfl rfl ?_
            refine w_ialdv (j := 3) (x := (-1)) rfl rfl (by decide) (by unfold vp_in; decide) (hI _ fmI_83_3 (by decide)) ?_
            refine w_pushI rfl ?_
            refine w_icmp_ne rfl (fun h => absurd (by decide) h) (fun _ => ?_)
            refine w_pushI rfl ?_
            refine w_goto rfl ?_
            refine w_iret rfl (Or.inl rfl) ?_
            show gW _ _ _ _ _ _ _ _ _ _
            refine w_iret rfl (Or.inl rfl) ?_
            exact congrArg (fun v => some (Value.int v)) (show ((-11) : Int32) = f1_by (3) b by have e0 : (3 : Int32).toInt = 3 := rfl; exact ite_eq_of (fun _ => rfl) (fun hc => absurd (by omega) hc))
          · obtain rfl : a = 4 := i_is hs5 (by decide)
            refine w_ialdv (j := 4) (x := (-1)) rfl rfl (by decide) (by unfold vp_in; decide) (hI _ fmI_83_4 (by decide)) ?_
            refine w_pushI rfl ?_
            refine w_icmp_ne rfl (fun h => absurd (by decide) h) (fun _ => ?_)
            refine w_pushI rfl ?_
            refine w_goto rfl ?_
            refine w_iret rfl (Or.inl rfl) ?_
            show gW _ _ _ _ _ _ _ _ _ _
            refine w_if_ge rfl (fun h => absurd h (by decide)) (fun _ => ?_)
            refine w_aload rfl rfl ?_
            refine w_iload rfl rfl ?_
            refine w_topv (z := 4) (by decide) ?_
            refine w_callVi (As := [_]) (le := [some _, some _]) rfl rfl rfl (Nat.le_of_ble_eq_true rfl) (Nat.le_of_ble_eq_true rfl) rfl ?_
            refine w_aload rfl rfl ?_
            refine w_getR (r := 83) rfl rfl (hR _ fmR_50_58 (by decide)) ?_
            refine w_iload rfl rfl ?_
            refine w_ialdv (j := 4) (x := (-1)) rfl rfl (by decide) (by unfold vp_in; decide) (hI _ fmI_83_4 (by decide)) ?_
            refine w_pushI rfl ?_
            refine w_icmp_ne rfl (fun h => absurd (by decide) h) (fun _ => ?_)
            refine w_pushI rfl ?_
            refine w_goto rfl ?_
            refine w_iret rfl (Or.inl rfl) ?_
            show gW _ _ _ _ _ _ _ _ _ _
            refine w_iret rfl (Or.inl rfl) ?_
            exact congrArg (fun v => some (Value.int v)) (show ((-11) : Int32) = f1_by (4) b by have e0 : (4 : Int32).toInt = 4 := rfl; exact ite_eq_of (fun _ => rfl) (fun hc => absurd (by omega) hc))
          · obtain rfl : a = 5 := i_is hs5 (by decide)
            refine w_ialdv (j := 5) (x := (-1)) rfl rfl (by decide) (by unfold vp_in; decide) (hI _ fmI_83_5 (by decide)) ?_
            refine w_pushI rfl ?_
            refine w_icmp_ne rfl (fun h => absurd (by decide) h) (fun _ => ?_)
            refine w_pushI rfl ?_
            refine w_goto rfl ?_
            refine w_iret rfl (Or.inl rfl) ?_
            show gW _ _ _ _ _ _ _ _ _ _
            refine w_if_ge rfl (fun h => absurd h (by decide)) (fun _ => ?_)
            refine w_aload rfl rfl ?_
            refine w_iload rfl rfl ?_
            refine w_topv (z := 5) (by decide) ?_
            refine w_callVi (As := [_]) (le := [some _, some _]) rfl rfl rfl (Nat.le_of_ble_eq_true rfl) (Nat.le_of_ble_eq_true rfl) rfl ?_
            refine w_aload rfl rfl ?_
            refine w_getR (r := 83) rfl rfl (hR _ fmR_50_58 (by decide)) ?_
            refine w_iload rfl rfl ?_
            refine w_ialdv (j := 5) (x := (-1)) rfl rfl (by decide) (by unfold vp_in; decide) (hI _ fmI_83_5 (by decide)) ?_
            refine w_pushI rfl ?_
            refine w_icmp_ne rfl (fun h => absurd (by decide) h) (fun _ => ?_)
            refine w_pushI rfl ?_
            refine w_goto rfl ?_
            refine w_iret rfl (Or.inl rfl) ?_
            show gW _ _ _ _ _ _ _ _ _ _
            refine w_iret rfl (Or.inl rfl) ?_
            exact congrArg (fun v => some (Value.int v)) (show ((-11) : Int32) = f1_by (5) b by have e0 : (5 : Int32).toInt = 5 := rfl; exact ite_eq_of (fun _ => rfl) (fun hc => absurd (by omega) hc))
set_option maxHeartbeats 40000000 in
set_option maxRecDepth 100000 in
theorem a1_next {X : Nat × (Nat → Int32)} {d : Nat} {I : Nat → Nat → Int32} {L : Nat → Nat → Int64} {R : Nat → Nat → Option Nat} (hI : ∀ q ∈ gFlI, I q.1 q.2.1 = q.2.2) (hL : ∀ q ∈ gFlL, L q.1 q.2.1 = q.2.2) (hR : ∀ q ∈ gFlR, R q.1 q.2.1 = some q.2.2) (a : Int32) (b : Int32) (c : Int32) : gW X (d + 12) 112 0 0 0 (gEn 112 [.ref 0, .int a, .int b, .int c]) [] (gK 87, I, L, R) (fun r σ => r = some (.int (f1_next a b c)) ∧ gFr σ I L R) := by
  show gW _ _ _ _ _ _ [some (.ref 0), some (.int a), some (.int b), some (.int c), none, none, none, none, none] _ _ _
  refine w_iload rfl rfl ?_
  refine w_callSi (As := [_]) (le := [some _]) rfl rfl (Nat.le_of_ble_eq_true rfl) (Nat.le_of_ble_eq_true rfl) rfl ?_
  refine w_iload rfl rfl ?_
  refine w_if_ltZ rfl rfl (fun h1 => ?_) (fun h1 => ?_)
  · refine w_pushI rfl ?_
    refine w_iret rfl (Or.inr ⟨rfl, by decide⟩) ?_
    show gW _ _ _ _ _ _ _ _ _ _
    refine w_if_eq rfl (fun _ => ?_) (fun h => absurd (by decide) h)
    refine w_pushI rfl ?_
    refine w_iret rfl (Or.inl rfl) ?_
    exact ⟨congrArg (fun v => some (Value.int v)) (show ((-1) : Int32) = f1_next a b c by exact ite_eq_of (fun hc => absurd hc (by omega)) (fun _ => rfl)), rfl, fun x hx => rfl, fun x hx => rfl, fun x hx => rfl⟩
  · refine w_iload rfl rfl ?_
    refine w_pushI rfl ?_
    refine w_icmp_geZ (b := 6) rfl rfl (by decide) (fun h2 => ?_) (fun h2 => ?_)
    · refine w_pushI rfl ?_
      refine w_iret rfl (Or.inr ⟨rfl, by decide⟩) ?_
      show gW _ _ _ _ _ _ _ _ _ _
      refine w_if_eq rfl (fun _ => ?_) (fun h => absurd (by decide) h)
      refine w_pushI rfl ?_
      refine w_iret rfl (Or.inl rfl) ?_
      exact ⟨congrArg (fun v => some (Value.int v)) (show ((-1) : Int32) = f1_next a b c by exact ite_eq_of (fun hc => absurd hc (by omega)) (fun _ => rfl)), rfl, fun x hx => rfl, fun x hx => rfl, fun x hx => rfl⟩
    · refine w_pushI rfl ?_
      refine w_goto rfl ?_
      refine w_iret rfl (Or.inr ⟨rfl, by decide⟩) ?_
      show gW _ _ _ _ _ _ _ _ _ _
      refine w_if_eq rfl (fun h => absurd h (by decide)) (fun _ => ?_)
      refine w_iload rfl rfl ?_
      refine w_callSi (As := [_]) (le := [some _]) rfl rfl (Nat.le_of_ble_eq_true rfl) (Nat.le_of_ble_eq_true rfl) rfl ?_
      refine w_iload rfl rfl ?_
      refine w_pushI rfl ?_
      refine w_icmp_ltZ (b := 1) rfl rfl (by decide) (fun h3 => ?_) (fun h3 => ?_)
      · refine w_pushI rfl ?_
        refine w_iret rfl (Or.inr ⟨rfl, by decide⟩) ?_
        show gW _ _ _ _ _ _ _ _ _ _
        refine w_if_eq rfl (fun _ => ?_) (fun h => absurd (by decide) h)
        refine w_pushI rfl ?_
        refine w_iret rfl (Or.inl rfl) ?_
        exact ⟨congrArg (fun v => some (Value.int v)) (show ((-1) : Int32) = f1_next a b c by exact ite_eq_of (fun hc => absurd hc (by omega)) (fun _ => rfl)), rfl, fun x hx => rfl, fun x hx => rfl, fun x hx => rfl⟩
      · refine w_iload rfl rfl ?_
        refine w_pushI rfl ?_
        refine w_icmp_gtZ (b := 99) rfl rfl (by decide) (fun h4 => ?_) (fun h4 => ?_)
        · refine w_pushI rfl ?_
          refine w_iret rfl (Or.inr ⟨rfl, by decide⟩) ?_
          show gW _ _ _ _ _ _ _ _ _ _
          refine w_if_eq rfl (fun _ => ?_) (fun h => absurd (by decide) h)
          refine w_pushI rfl ?_
          refine w_iret rfl (Or.inl rfl) ?_
          exact ⟨congrArg (fun v => some (Value.int v)) (show ((-1) : Int32) = f1_next a b c by exact ite_eq_of (fun hc => absurd hc (by omega)) (fun _ => rfl)), rfl, fun x hx => rfl, fun x hx => rfl, fun x hx => rfl⟩
        · refine w_pushI rfl ?_
          refine w_goto rfl ?_
          refine w_iret rfl (Or.inr ⟨rfl, by decide⟩) ?_
          show gW _ _ _ _ _ _ _ _ _ _
          refine w_if_eq rfl (fun h => absurd h (by decide)) (fun _ => ?_)
          refine w_iload rfl rfl ?_
          refine w_callSi (As := [_]) (le := [some _]) rfl rfl (Nat.le_of_ble_eq_true rfl) (Nat.le_of_ble_eq_true rfl) rfl ?_
          refine w_iload rfl rfl ?_
          refine w_if_eqZ rfl rfl (fun h5 => ?_) (fun h5 => ?_)
          · obtain rfl : c = 0 := i_is (show c.toInt = 0 by omega) (by decide)
            refine w_pushI rfl ?_
            refine w_goto rfl ?_
            refine w_iret rfl (Or.inr ⟨rfl, by decide⟩) ?_
            show gW _ _ _ _ _ _ _ _ _ _
            refine w_if_ne rfl (fun _ => ?_) (fun h => absurd h (by decide))
            refine w_aload rfl rfl ?_
            refine w_getR (r := 10) rfl rfl (hR _ fmR_0_2) ?_
            refine w_aload rfl rfl ?_
            refine w_getR (r := 37) rfl rfl (hR _ fmR_0_11) ?_
            refine w_iload rfl rfl ?_
            rcases (show a.toInt = 0 ∨ a.toInt = 1 ∨ a.toInt = 2 ∨ a.toInt = 3 ∨ a.toInt = 4 ∨ a.toInt = 5 by omega) with hs7 | hs7 | hs7 | hs7 | hs7 | hs7
            · obtain rfl : a = 0 := i_is hs7 (by decide)
              refine w_aaldv (j := 0) (r := 38) rfl rfl (by decide) (by unfold vp_in; decide) (hR _ fmR_37_0) ?_
              refine w_callVi (As := [_]) (le := [some _, some _, none, none, none]) rfl rfl rfl (Nat.le_of_ble_eq_true rfl) (Nat.le_of_ble_eq_true rfl) rfl ?_
              refine w_aload rfl rfl ?_
              refine w_callVi (As := []) (le := [some _]) rfl rfl rfl (Nat.le_of_ble_eq_true rfl) (Nat.le_of_ble_eq_true rfl) rfl ?_
              refine w_aload rfl rfl ?_
              refine w_getIv (x := 0) rfl rfl (hI _ fmI_38_0) ?_
              refine w_if_ne rfl (fun h => absurd (by decide) h) (fun _ => ?_)
              refine w_pushI rfl ?_
              refine w_iret rfl (Or.inl rfl) ?_
              show gW _ _ _ _ _ _ _ _ _ _
              refine w_istore rfl rfl ?_
              refine w_iload rfl rfl ?_
              refine w_if_ge rfl (fun h => absurd h (by decide)) (fun _ => ?_)
              refine w_iload rfl rfl ?_
              refine w_iret rfl (Or.inl rfl) ?_
              show gW _ _ _ _ _ _ _ _ _ _
              refine w_istore rfl rfl ?_
              refine w_iload rfl rfl ?_
              refine w_if_ge rfl (fun h => absurd h (by decide)) (fun _ => ?_)
              refine w_iload rfl rfl ?_
              refine w_iret rfl (Or.inl rfl) ?_
              exact ⟨congrArg (fun v => some (Value.int v)) (show ((-11) : Int32) = f1_next (0) b (0) by have e0 : (0 : Int32).toInt = 0 := rfl; have e1 : (0 : Int32).toInt = 0 := rfl; exact ite_eq_of (fun _ => rfl) (fun hc => absurd (by omega) hc)), rfl, fun x hx => rfl, fun x hx => rfl, fun x hx => rfl⟩
            · obtain rfl : a = 1 := i_is hs7 (by decide)
              refine w_aaldv (j := 1) (r := 40) rfl rfl (by decide) (by unfold vp_in; decide) (hR _ fmR_37_1) ?_
              refine w_callVi (As := [_]) (le := [some _, some _, none, none, none]) rfl rfl rfl (Nat.le_of_ble_eq_true rfl) (Nat.le_of_ble_eq_true rfl) rfl ?_
              refine w_aload rfl rfl ?_
              refine w_callVi (As := []) (le := [some _]) rfl rfl rfl (Nat.le_of_ble_eq_true rfl) (Nat.le_of_ble_eq_true rfl) rfl ?_
              refine w_aload rfl rfl ?_
              refine w_getIv (x := 0) rfl rfl (hI _ fmI_40_0) ?_
              refine w_if_ne rfl (fun h => absurd (by decide) h) (fun _ => ?_)
              refine w_pushI rfl ?_
              refine w_iret rfl (Or.inl rfl) ?_
              show gW _ _ _ _ _ _ _ _ _ _
              refine w_istore rfl rfl ?_
              refine w_iload rfl rfl ?_
              refine w_if_ge rfl (fun h => absurd h (by decide)) (fun _ => ?_)
              refine w_iload rfl rfl ?_
              refine w_iret rfl (Or.inl rfl) ?_
              show gW _ _ _ _ _ _ _ _ _ _
              refine w_istore rfl rfl ?_
              refine w_iload rfl rfl ?_
              refine w_if_ge rfl (fun h => absurd h (by decide)) (fun _ => ?_)
              refine w_iload rfl rfl ?_
              refine w_iret rfl (Or.inl rfl) ?_
              exact ⟨congrArg (fun v => some (Value.int v)) (show ((-11) : Int32) = f1_next (1) b (0) by have e0 : (1 : Int32).toInt = 1 := rfl; have e1 : (0 : Int32).toInt = 0 := rfl; exact ite_eq_of (fun _ => rfl) (fun hc => absurd (by omega) hc)), rfl, fun x hx => rfl, fun x hx => rfl, fun x hx => rfl⟩
            · obtain rfl : a = 2 := i_is hs7 (by decide)
              refine w_aaldv (j := 2) (r := 42) rfl rfl (by decide) (by unfold vp_in; decide) (hR _ fmR_37_2) ?_
              refine w_callVi (As := [_]) (le := [some _, some _, none, none, none]) rfl rfl rfl (Nat.le_of_ble_eq_true rfl) (Nat.le_of_ble_eq_true rfl) rfl ?_
              refine w_aload rfl rfl ?_
              refine w_callVi (As := []) (le := [some _]) rfl rfl rfl (Nat.le_of_ble_eq_true rfl) (Nat.le_of_ble_eq_true rfl) rfl ?_
              refine w_aload rfl rfl ?_
              refine w_getIv (x := 0) rfl rfl (hI _ fmI_42_0) ?_
              refine w_if_ne rfl (fun h => absurd (by decide) h) (fun _ => ?_)
              refine w_pushI rfl ?_
              refine w_iret rfl (Or.inl rfl) ?_
              show gW _ _ _ _ _ _ _ _ _ _
              refine w_istore rfl rfl ?_
              refine w_iload rfl rfl ?_
              refine w_if_ge rfl (fun h => absurd h (by decide)) (fun _ => ?_)
              refine w_iload rfl rfl ?_
              refine w_iret rfl (Or.inl rfl) ?_
              show gW _ _ _ _ _ _ _ _ _ _
              refine w_istore rfl rfl ?_
              refine w_iload rfl rfl ?_
              refine w_if_ge rfl (fun h => absurd h (by decide)) (fun _ => ?_)
              refine w_iload rfl rfl ?_
              refine w_iret rfl (Or.inl rfl) ?_
              exact ⟨congrArg (fun v => some (Value.int v)) (show ((-11) : Int32) = f1_next (2) b (0) by have e0 : (2 : Int32).toInt = 2 := rfl; have e1 : (0 : Int32).toInt = 0 := rfl; exact ite_eq_of (fun _ => rfl) (fun hc => absurd (by omega) hc)), rfl, fun x hx => rfl, fun x hx => rfl, fun x hx => rfl⟩
            · obtain rfl : a = 3 := i_is hs7 (by decide)
              refine w_aaldv (j := 3) (r := 44) rfl rfl (by decide) (by unfold vp_in; decide) (hR _ fmR_37_3) ?_
              refine w_callVi (As := [_]) (le := [some _, some _, none, none, none]) rfl rfl rfl (Nat.le_of_ble_eq_true rfl) (Nat.le_of_ble_eq_true rfl) rfl ?_
              refine w_aload rfl rfl ?_
              refine w_callVi (As := []) (le := [some _]) rfl rfl rfl (Nat.le_of_ble_eq_true rfl) (Nat.le_of_ble_eq_true rfl) rfl ?_
              refine w_aload rfl rfl ?_
              refine w_getIv (x := 0) rfl rfl (hI _ fmI_44_0) ?_
              refine w_if_ne rfl (fun h => absurd (by decide) h) (fun _ => ?_)
              refine w_pushI rfl ?_
              refine w_iret rfl (Or.inl rfl) ?_
              show gW _ _ _ _ _ _ _ _ _ _
              refine w_istore rfl rfl ?_
              refine w_iload rfl rfl ?_
              refine w_if_ge rfl (fun h => absurd h (by decide)) (fun _ => ?_)
              refine w_iload rfl rfl ?_
              refine w_iret rfl (Or.inl rfl) ?_
              show gW _ _ _ _ _ _ _ _ _ _
              refine w_istore rfl rfl ?_
              refine w_iload rfl rfl ?_
              refine w_if_ge rfl (fun h => absurd h (by decide)) (fun _ => ?_)
              refine w_iload rfl rfl ?_
              refine w_iret rfl (Or.inl rfl) ?_
              exact ⟨congrArg (fun v => some (Value.int v)) (show ((-11) : Int32) = f1_next (3) b (0) by have e0 : (3 : Int32).toInt = 3 := rfl; have e1 : (0 : Int32).toInt = 0 := rfl; exact ite_eq_of (fun _ => rfl) (fun hc => absurd (by omega) hc)), rfl, fun x hx => rfl, fun x hx => rfl, fun x hx => rfl⟩
            · obtain rfl : a = 4 := i_is hs7 (by decide)
              refine w_aaldv (j := 4) (r := 46) rfl rfl (by decide) (by unfold vp_in; decide) (hR _ fmR_37_4) ?_
              refine w_callVi (As := [_]) (le := [some _, some _, none, none, none]) rfl rfl rfl (Nat.le_of_ble_eq_true rfl) (Nat.le_of_ble_eq_true rfl) rfl ?_
              refine w_aload rfl rfl ?_
              refine w_callVi (As := []) (le := [some _]) rfl rfl rfl (Nat.le_of_ble_eq_true rfl) (Nat.le_of_ble_eq_true rfl) rfl ?_
              refine w_aload rfl rfl ?_
              refine w_getIv (x := 0) rfl rfl (hI _ fmI_46_0) ?_
              refine w_if_ne rfl (fun h => absurd (by decide) h) (fun _ => ?_)
              refine w_pushI rfl ?_
              refine w_iret rfl (Or.inl rfl) ?_
              show gW _ _ _ _ _ _ _ _ _ _
              refine w_istore rfl rfl ?_
              refine w_iload rfl rfl ?_
              refine w_if_ge rfl (fun h => absurd h (by decide)) (fun _ => ?_)
              refine w_iload rfl rfl ?_
              refine w_iret rfl (Or.inl rfl) ?_
              show gW _ _ _ _ _ _ _ _ _ _
              refine w_istore rfl rfl ?_
              refine w_iload rfl rfl ?_
              refine w_if_ge rfl (fun h => absurd h (by decide)) (fun _ => ?_)
              refine w_iload rfl rfl ?_
              refine w_iret rfl (Or.inl rfl) ?_
              exact ⟨congrArg (fun v => some (Value.int v)) (show ((-11) : Int32) = f1_next (4) b (0) by have e0 : (4 : Int32).toInt = 4 := rfl; have e1 : (0 : Int32).toInt = 0 := rfl; exact ite_eq_of (fun _ => rfl) (fun hc => absurd (by omega) hc)), rfl, fun x hx => rfl, fun x hx => rfl, fun x hx => rfl⟩
            · obtain rfl : a = 5 := i_is hs7 (by decide)
              refine w_aaldv (j := 5) (r := 48) rfl rfl (by decide) (by unfold vp_in; decide) (hR _ fmR_37_5) ?_
              refine w_callVi (As := [_]) (le := [some _, some _, none, none, none]) rfl rfl rfl (Nat.le_of_ble_eq_true rfl) (Nat.le_of_ble_eq_true rfl) rfl ?_
              refine w_aload rfl rfl ?_
              refine w_callVi (As := []) (le := [some _]) rfl rfl rfl (Nat.le_of_ble_eq_true rfl) (Nat.le_of_ble_eq_true rfl) rfl ?_
              refine w_aload rfl rfl ?_
              refine w_getIv (x := 0) rfl rfl (hI _ fmI_48_0) ?_
              refine w_if_ne rfl (fun h => absurd (by decide) h) (fun _ => ?_)
              refine w_pushI rfl ?_
              refine w_iret rfl (Or.inl rfl) ?_
              show gW _ _ _ _ _ _ _ _ _ _
              refine w_istore rfl rfl ?_
              refine w_iload rfl rfl ?_
              refine w_if_ge rfl (fun h => absurd h (by decide)) (fun _ => ?_)
              refine w_iload rfl rfl ?_
              refine w_iret rfl (Or.inl rfl) ?_
              show gW _ _ _ _ _ _ _ _ _ _
              refine w_istore rfl rfl ?_
              refine w_iload rfl rfl ?_
              refine w_if_ge rfl (fun h => absurd h (by decide)) (fun _ => ?_)
              refine w_iload rfl rfl ?_
              refine w_iret rfl (Or.inl rfl) ?_
              exact ⟨congrArg (fun v => some (Value.int v)) (show ((-11) : Int32) = f1_next (5) b (0) by have e0 : (5 : Int32).toInt = 5 := rfl; have e1 : (0 : Int32).toInt = 0 := rfl; exact ite_eq_of (fun _ => rfl) (fun hc => absurd (by omega) hc)), rfl, fun x hx => rfl, fun x hx => rfl, fun x hx => rfl⟩
          · refine w_iload rfl rfl ?_
            refine w_pushI rfl ?_
            refine w_icmp_neZ (b := 1) rfl rfl (by decide) (fun h6 => ?_) (fun h6 => ?_)
            · refine w_pushI rfl ?_
              refine w_iret rfl (Or.inr ⟨rfl, by decide⟩) ?_
              show gW _ _ _ _ _ _ _ _ _ _
              refine w_if_ne rfl (fun h => absurd (by decide) h) (fun _ => ?_)
              refine w_pushI rfl ?_
              refine w_iret rfl (Or.inl rfl) ?_
              exact ⟨congrArg (fun v => some (Value.int v)) (show ((-1) : Int32) = f1_next a b c by exact ite_eq_of (fun hc => (by exfalso; omega)) (fun hc => rfl)), rfl, fun x hx => rfl, fun x hx => rfl, fun x hx => rfl⟩
            · obtain rfl : c = 1 := i_is (show c.toInt = 1 by omega) (by decide)
              refine w_pushI rfl ?_
              refine w_goto rfl ?_
              refine w_iret rfl (Or.inr ⟨rfl, by decide⟩) ?_
              show gW _ _ _ _ _ _ _ _ _ _
              refine w_if_ne rfl (fun _ => ?_) (fun h => absurd h (by decide))
              refine w_aload rfl rfl ?_
              refine w_getR (r := 10) rfl rfl (hR _ fmR_0_2) ?_
              refine w_aload rfl rfl ?_
              refine w_getR (r := 37) rfl rfl (hR _ fmR_0_11) ?_
              refine w_iload rfl rfl ?_
              rcases (show a.toInt = 0 ∨ a.toInt = 1 ∨ a.toInt = 2 ∨ a.toInt = 3 ∨ a.toInt = 4 ∨ a.toInt = 5 by omega) with hs8 | hs8 | hs8 | hs8 | hs8 | hs8
              · obtain rfl : a = 0 := i_is hs8 (by decide)
                refine w_aaldv (j := 0) (r := 38) rfl rfl (by decide) (by unfold vp_in; decide) (hR _ fmR_37_0) ?_
                refine w_callVi (As := [_]) (le := [some _, some _, none, none, none]) rfl rfl rfl (Nat.le_of_ble_eq_true rfl) (Nat.le_of_ble_eq_true rfl) rfl ?_
                refine w_aload rfl rfl ?_
                refine w_callVi (As := []) (le := [some _]) rfl rfl rfl (Nat.le_of_ble_eq_true rfl) (Nat.le_of_ble_eq_true rfl) rfl ?_
                refine w_aload rfl rfl ?_
                refine w_getIv (x := 0) rfl rfl (hI _ fmI_38_0) ?_
                refine w_if_ne rfl (fun h => absurd (by decide) h) (fun _ => ?_)
                refine w_pushI rfl ?_
                refine w_iret rfl (Or.inl rfl) ?_
                show gW _ _ _ _ _ _ _ _ _ _
                refine w_istore rfl rfl ?_
                refine w_iload rfl rfl ?_
                refine w_if_ge rfl (fun h => absurd h (by decide)) (fun _ => ?_)
                refine w_iload rfl rfl ?_
                refine w_iret rfl (Or.inl rfl) ?_
                show gW _ _ _ _ _ _ _ _ _ _
                refine w_istore rfl rfl ?_
                refine w_iload rfl rfl ?_
                refine w_if_ge rfl (fun h => absurd h (by decide)) (fun _ => ?_)
                refine w_iload rfl rfl ?_
                refine w_iret rfl (Or.inl rfl) ?_
                exact ⟨congrArg (fun v => some (Value.int v)) (show ((-11) : Int32) = f1_next (0) b (1) by have e0 : (0 : Int32).toInt = 0 := rfl; have e1 : (1 : Int32).toInt = 1 := rfl; exact ite_eq_of (fun _ => rfl) (fun hc => absurd (by omega) hc)), rfl, fun x hx => rfl, fun x hx => rfl, fun x hx => rfl⟩
              · obtain rfl : a = 1 := i_is hs8 (by decide)
                refine w_aaldv (j := 1) (r := 40) rfl rfl (by decide) (by unfold vp_in; decide) (hR _ fmR_37_1) ?_
                refine w_callVi (As := [_]) (le := [some _, some _, none, none, none]) rfl rfl rfl (Nat.le_of_ble_eq_true rfl) (Nat.le_of_ble_eq_true rfl) rfl ?_
                refine w_aload rfl rfl ?_
                refine w_callVi (As := []) (le := [some _]) rfl rfl rfl (Nat.le_of_ble_eq_true rfl) (Nat.le_of_ble_eq_true rfl) rfl ?_
                refine w_aload rfl rfl ?_
                refine w_getIv (x := 0) rfl rfl (hI _ fmI_40_0) ?_
                refine w_if_ne rfl (fun h => absurd (by decide) h) (fun _ => ?_)
                refine w_pushI rfl ?_
                refine w_iret rfl (Or.inl rfl) ?_
                show gW _ _ _ _ _ _ _ _ _ _
                refine w_istore rfl rfl ?_
                refine w_iload rfl rfl ?_
                refine w_if_ge rfl (fun h => absurd h (by decide)) (fun _ => ?_)
                refine w_iload rfl rfl ?_
                refine w_iret rfl (Or.inl rfl) ?_
                show gW _ _ _ _ _ _ _ _ _ _
                refine w_istore rfl rfl ?_
                refine w_iload rfl rfl ?_
                refine w_if_ge rfl (fun h => absurd h (by decide)) (fun _ => ?_)
                refine w_iload rfl rfl ?_
                refine w_iret rfl (Or.inl rfl) ?_
                exact ⟨congrArg (fun v => some (Value.int v)) (show ((-11) : Int32) = f1_next (1) b (1) by have e0 : (1 : Int32).toInt = 1 := rfl; have e1 : (1 : Int32).toInt = 1 := rfl; exact ite_eq_of (fun _ => rfl) (fun hc => absurd (by omega) hc)), rfl, fun x hx => rfl, fun x hx => rfl, fun x hx => rfl⟩
              · obtain rfl : a = 2 := i_is hs8 (by decide)
                refine w_aaldv (j := 2) (r := 42) rfl rfl (by decide) (by unfold vp_in; decide) (hR _ fmR_37_2) ?_
                refine w_callVi (As := [_]) (le := [some _, some _, none, none, none]) rfl rfl rfl (Nat.le_of_ble_eq_true rfl) (Nat.le_of_ble_eq_true rfl) rfl ?_
                refine w_aload rfl rfl ?_
                refine w_callVi (As := []) (le := [some _]) rfl rfl rfl (Nat.le_of_ble_eq_true rfl) (Nat.le_of_ble_eq_true rfl) rfl ?_
                refine w_aload rfl rfl ?_
                refine w_getIv (x := 0) rfl rfl (hI _ fmI_42_0) ?_
                refine w_if_ne rfl (fun h => absurd (by decide) h) (fun _ => ?_)
                refine w_pushI rfl ?_
                refine w_iret rfl (Or.inl rfl) ?_
                show gW _ _ _ _ _ _ _ _ _ _
                refine w_istore rfl rfl ?_
                refine w_iload rfl rfl ?_
                refine w_if_ge rfl (fun h => absurd h (by decide)) (fun _ => ?_)
                refine w_iload rfl rfl ?_
                refine w_iret rfl (Or.inl rfl) ?_
                show gW _ _ _ _ _ _ _ _ _ _
                refine w_istore rfl rfl ?_
                refine w_iload rfl rfl ?_
                refine w_if_ge rfl (fun h => absurd h (by decide)) (fun _ => ?_)
                refine w_iload rfl rfl ?_
                refine w_iret rfl (Or.inl rfl) ?_
                exact ⟨congrArg (fun v => some (Value.int v)) (show ((-11) : Int32) = f1_next (2) b (1) by have e0 : (2 : Int32).toInt = 2 := rfl; have e1 : (1 : Int32).toInt = 1 := rfl; exact ite_eq_of (fun _ => rfl) (fun hc => absurd (by omega) hc)), rfl, fun x hx => rfl, fun x hx => rfl, fun x hx => rfl⟩
              · obtain rfl : a = 3 := i_is hs8 (by decide)
                refine w_aaldv (j := 3) (r := 44) rfl rfl (by decide) (by unfold vp_in; decide) (hR _ fmR_37_3) ?_
                refine w_callVi (As := [_]) (le := [some _, some _, none, none, none]) rfl rfl rfl (Nat.le_of_ble_eq_true rfl) (Nat.le_of_ble_eq_true rfl) rfl ?_
                refine w_aload rfl rfl ?_
                refine w_callVi (As := []) (le := [some _]) rfl rfl rfl (Nat.le_of_ble_eq_true rfl) (Nat.le_of_ble_eq_true rfl) rfl ?_
                refine w_aload rfl rfl ?_
                refine w_getIv (x := 0) rfl rfl (hI _ fmI_44_0) ?_
                refine w_if_ne rfl (fun h => absurd (by decide) h) (fun _ => ?_)
                refine w_pushI rfl ?_
                refine w_iret rfl (Or.inl rfl) ?_
                show gW _ _ _ _ _ _ _ _ _ _
                refine w_istore rfl rfl ?_
                refine w_iload rfl rfl ?_
                refine w_if_ge rfl (fun h => absurd h (by decide)) (fun _ => ?_)
                refine w_iload rfl rfl ?_
                refine w_iret rfl (Or.inl rfl) ?_
                show gW _ _ _ _ _ _ _ _ _ _
                refine w_istore rfl rfl ?_
                refine w_iload rfl rfl ?_
                refine w_if_ge rfl (fun h => absurd h (by decide)) (fun _ => ?_)
                refine w_iload rfl rfl ?_
                refine w_iret rfl (Or.inl rfl) ?_
                exact ⟨congrArg (fun v => some (Value.int v)) (show ((-11) : Int32) = f1_next (3) b (1) by have e0 : (3 : Int32).toInt = 3 := rfl; have e1 : (1 : Int32).toInt = 1 := rfl; exact ite_eq_of (fun _ => rfl) (fun hc => absurd (by omega) hc)), rfl, fun x hx => rfl, fun x hx => rfl, fun x hx => rfl⟩
              · obtain rfl : a = 4 := i_is hs8 (by decide)
                refine w_aaldv (j := 4) (r := 46) rfl rfl (by decide) (by unfold vp_in; decide) (hR _ fmR_37_4) ?_
                refine w_callVi (As := [_]) (le := [some _, some _, none, none, none]) rfl rfl rfl (Nat.le_of_ble_eq_true rfl) (Nat.le_of_ble_eq_true rfl) rfl ?_
                refine w_aload rfl rfl ?_
                refine w_callVi (As := []) (le := [some _]) rfl rfl rfl (Nat.le_of_ble_eq_true rfl) (Nat.le_of_ble_eq_true rfl) rfl ?_
                refine w_aload rfl rfl ?_
                refine w_getIv (x := 0) rfl rfl (hI _ fmI_46_0) ?_
                refine w_if_ne rfl (fun h => absurd (by decide) h) (fun _ => ?_)
                refine w_pushI rfl ?_
                refine w_iret rfl (Or.inl rfl) ?_
                show gW _ _ _ _ _ _ _ _ _ _
                refine w_istore rfl rfl ?_
                refine w_iload rfl rfl ?_
                refine w_if_ge rfl (fun h => absurd h (by decide)) (fun _ => ?_)
                refine w_iload rfl rfl ?_
                refine w_iret rfl (Or.inl rfl) ?_
                show gW _ _ _ _ _ _ _ _ _ _
                refine w_istore rfl rfl ?_
                refine w_iload rfl rfl ?_
                refine w_if_ge rfl (fun h => absurd h (by decide)) (fun _ => ?_)
                refine w_iload rfl rfl ?_
                refine w_iret rfl (Or.inl rfl) ?_
                exact ⟨congrArg (fun v => some (Value.int v)) (show ((-11) : Int32) = f1_next (4) b (1) by have e0 : (4 : Int32).toInt = 4 := rfl; have e1 : (1 : Int32).toInt = 1 := rfl; exact ite_eq_of (fun _ => rfl) (fun hc => absurd (by omega) hc)), rfl, fun x hx => rfl, fun x hx => rfl, fun x hx => rfl⟩
              · obtain rfl : a = 5 := i_is hs8 (by decide)
                refine w_aaldv (j := 5) (r := 48) rfl rfl (by decide) (by unfold vp_in; decide) (hR _ fmR_37_5) ?_
                refine w_callVi (As := [_]) (le := [some _, some _, none, none, none]) rfl rfl rfl (Nat.le_of_ble_eq_true rfl) (Nat.le_of_ble_eq_true rfl) rfl ?_
                refine w_aload rfl rfl ?_
                refine w_callVi (As := []) (le := [some _]) rfl rfl rfl (Nat.le_of_ble_eq_true rfl) (Nat.le_of_ble_eq_true rfl) rfl ?_
                refine w_aload rfl rfl ?_
                refine w_getIv (x := 0) rfl rfl (hI _ fmI_48_0) ?_
                refine w_if_ne rfl (fun h => absurd (by decide) h) (fun _ => ?_)
                refine w_pushI rfl ?_
                refine w_iret rfl (Or.inl rfl) ?_
                show gW _ _ _ _ _ _ _ _ _ _
                refine w_istore rfl rfl ?_
                refine w_iload rfl rfl ?_
                refine w_if_ge rfl (fun h => absurd h (by decide)) (fun _ => ?_)
                refine w_iload rfl rfl ?_
                refine w_iret rfl (Or.inl rfl) ?_
                show gW _ _ _ _ _ _ _ _ _ _
                refine w_istore rfl rfl ?_
                refine w_iload rfl rfl ?_
                refine w_if_ge rfl (fun h => absurd h (by decide)) (fun _ => ?_)
                refine w_iload rfl rfl ?_
                refine w_iret rfl (Or.inl rfl) ?_
                exact ⟨congrArg (fun v => some (Value.int v)) (show ((-11) : Int32) = f1_next (5) b (1) by have e0 : (5 : Int32).toInt = 5 := rfl; have e1 : (1 : Int32).toInt = 1 := rfl; exact ite_eq_of (fun _ => rfl) (fun hc => absurd (by omega) hc)), rfl, fun x hx => rfl, fun x hx => rfl, fun x hx => rfl⟩
set_option maxHeartbeats 40000000 in
set_option maxRecDepth 100000 in
theorem a2_next {X : Nat × (Nat → Int32)} {d : Nat} {I : Nat → Nat → Int32} {L : Nat → Nat → Int64} {R : Nat → Nat → Option Nat} (hI : ∀ q ∈ gFlI, 50 ≤ q.1 → I q.1 q.2.1 = q.2.2) (hL : ∀ q ∈ gFlL, 50 ≤ q.1 → L q.1 q.2.1 = q.2.2) (hR : ∀ q ∈ gFlR, 50 ≤ q.1 → R q.1 q.2.1 = some q.2.2) (a : Int32) (b : Int32) (c : Int32) : gW X (d + 12) 202 0 0 0 (gEn 202 [.ref 50, .int a, .int b, .int c]) [] (gK 87, I, L, R) (fun r _ => r = some (.int (f1_next a b c))) := by
  show gW _ _ _ _ _ _ [some (.ref 50), some (.int a), some (.int b), some (.int c), none, none, none, none] _ _ _
  refine w_iload rfl rfl ?_
  refine w_callSi (As := [_]) (le := [some _]) rfl rfl (Nat.le_of_ble_eq_true rfl) (Nat.le_of_ble_eq_true rfl) rfl ?_
  refine w_iload rfl rfl ?_
  refine w_pushI rfl ?_
  refine w_pushI rfl ?_
  refine w_callSi (As := [_, _, _]) (le := [some _, some _, some _]) rfl rfl (Nat.le_of_ble_eq_true rfl) (Nat.le_of_ble_eq_true rfl) rfl ?_
  refine w_iload rfl rfl ?_
  refine w_iload rfl rfl ?_
  refine w_icmp_ltZ (b := 0) rfl rfl (by decide) (fun h1 => ?_) (fun h1 => ?_)
  · refine w_pushI rfl ?_
    refine w_iret rfl (Or.inr ⟨rfl, by decide⟩) ?_
    show gW _ _ _ _ _ _ _ _ _ _
    refine w_iret rfl (Or.inr ⟨rfl, by decide⟩) ?_
    show gW _ _ _ _ _ _ _ _ _ _
    refine w_if_eq rfl (fun _ => ?_) (fun h => absurd (by decide) h)
    refine w_pushI rfl ?_
    refine w_iret rfl (Or.inl rfl) ?_
    exact congrArg (fun v => some (Value.int v)) (show ((-1) : Int32) = f1_next a b c by exact ite_eq_of (fun hc => absurd hc (by omega)) (fun _ => rfl))
  · refine w_iload rfl rfl ?_
    refine w_iload rfl rfl ?_
    refine w_icmp_gtZ (b := 5) rfl rfl (by decide) (fun h2 => ?_) (fun h2 => ?_)
    · refine w_pushI rfl ?_
      refine w_iret rfl (Or.inr ⟨rfl, by decide⟩) ?_
      show gW _ _ _ _ _ _ _ _ _ _
      refine w_iret rfl (Or.inr ⟨rfl, by decide⟩) ?_
      show gW _ _ _ _ _ _ _ _ _ _
      refine w_if_eq rfl (fun _ => ?_) (fun h => absurd (by decide) h)
      refine w_pushI rfl ?_
      refine w_iret rfl (Or.inl rfl) ?_
      exact congrArg (fun v => some (Value.int v)) (show ((-1) : Int32) = f1_next a b c by exact ite_eq_of (fun hc => absurd hc (by omega)) (fun _ => rfl))
    · refine w_pushI rfl ?_
      refine w_goto rfl ?_
      refine w_iret rfl (Or.inr ⟨rfl, by decide⟩) ?_
      show gW _ _ _ _ _ _ _ _ _ _
      refine w_iret rfl (Or.inr ⟨rfl, by decide⟩) ?_
      show gW _ _ _ _ _ _ _ _ _ _
      refine w_if_eq rfl (fun h => absurd h (by decide)) (fun _ => ?_)
      refine w_iload rfl rfl ?_
      refine w_pushI rfl ?_
      refine w_pushI rfl ?_
      refine w_callSi (As := [_, _, _]) (le := [some _, some _, some _]) rfl rfl (Nat.le_of_ble_eq_true rfl) (Nat.le_of_ble_eq_true rfl) rfl ?_
      refine w_iload rfl rfl ?_
      refine w_iload rfl rfl ?_
      refine w_icmp_ltZ (b := 1) rfl rfl (by decide) (fun h3 => ?_) (fun h3 => ?_)
      · refine w_pushI rfl ?_
        refine w_iret rfl (Or.inr ⟨rfl, by decide⟩) ?_
        show gW _ _ _ _ _ _ _ _ _ _
        refine w_if_eq rfl (fun _ => ?_) (fun h => absurd (by decide) h)
        refine w_pushI rfl ?_
        refine w_iret rfl (Or.inl rfl) ?_
        exact congrArg (fun v => some (Value.int v)) (show ((-1) : Int32) = f1_next a b c by exact ite_eq_of (fun hc => absurd hc (by omega)) (fun _ => rfl))
      · refine w_iload rfl rfl ?_
        refine w_iload rfl rfl ?_
        refine w_icmp_gtZ (b := 99) rfl rfl (by decide) (fun h4 => ?_) (fun h4 => ?_)
        · refine w_pushI rfl ?_
          refine w_iret rfl (Or.inr ⟨rfl, by decide⟩) ?_
          show gW _ _ _ _ _ _ _ _ _ _
          refine w_if_eq rfl (fun _ => ?_) (fun h => absurd (by decide) h)
          refine w_pushI rfl ?_
          refine w_iret rfl (Or.inl rfl) ?_
          exact congrArg (fun v => some (Value.int v)) (show ((-1) : Int32) = f1_next a b c by exact ite_eq_of (fun hc => absurd hc (by omega)) (fun _ => rfl))
        · refine w_pushI rfl ?_
          refine w_goto rfl ?_
          refine w_iret rfl (Or.inr ⟨rfl, by decide⟩) ?_
          show gW _ _ _ _ _ _ _ _ _ _
          refine w_if_eq rfl (fun h => absurd h (by decide)) (fun _ => ?_)
          refine w_iload rfl rfl ?_
          refine w_pushI rfl ?_
          refine w_pushI rfl ?_
          refine w_callSi (As := [_, _, _]) (le := [some _, some _, some _]) rfl rfl (Nat.le_of_ble_eq_true rfl) (Nat.le_of_ble_eq_true rfl) rfl ?_
          refine w_iload rfl rfl ?_
          refine w_iload rfl rfl ?_
          refine w_icmp_ltZ (b := 0) rfl rfl (by decide) (fun h5 => ?_) (fun h5 => ?_)
          · refine w_pushI rfl ?_
            refine w_iret rfl (Or.inr ⟨rfl, by decide⟩) ?_
            show gW _ _ _ _ _ _ _ _ _ _
            refine w_if_ne rfl (fun h => absurd (by decide) h) (fun _ => ?_)
            refine w_pushI rfl ?_
            refine w_iret rfl (Or.inl rfl) ?_
            exact congrArg (fun v => some (Value.int v)) (show ((-1) : Int32) = f1_next a b c by exact ite_eq_of (fun hc => absurd hc (by omega)) (fun _ => rfl))
          · refine w_iload rfl rfl ?_
            refine w_iload rfl rfl ?_
            refine w_icmp_gtZ (b := 1) rfl rfl (by decide) (fun h6 => ?_) (fun h6 => ?_)
            · refine w_pushI rfl ?_
              refine w_iret rfl (Or.inr ⟨rfl, by decide⟩) ?_
              show gW _ _ _ _ _ _ _ _ _ _
              refine w_if_ne rfl (fun h => absurd (by decide) h) (fun _ => ?_)
              refine w_pushI rfl ?_
              refine w_iret rfl (Or.inl rfl) ?_
              exact congrArg (fun v => some (Value.int v)) (show ((-1) : Int32) = f1_next a b c by exact ite_eq_of (fun hc => absurd hc (by omega)) (fun _ => rfl))
            · refine w_pushI rfl ?_
              refine w_goto rfl ?_
              refine w_iret rfl (Or.inr ⟨rfl, by decide⟩) ?_
              show gW _ _ _ _ _ _ _ _ _ _
              refine w_if_ne rfl (fun _ => ?_) (fun h => absurd h (by decide))
              refine w_aload rfl rfl ?_
              refine w_iload rfl rfl ?_
              refine w_callVi (As := [_]) (le := [some _, some _]) rfl rfl rfl (Nat.le_of_ble_eq_true rfl) (Nat.le_of_ble_eq_true rfl) rfl ?_
              refine w_aload rfl rfl ?_
              refine w_getR (r := 83) rfl rfl (hR _ fmR_50_58 (by decide)) ?_
              refine w_iload rfl rfl ?_
              rcases (show a.toInt = 0 ∨ a.toInt = 1 ∨ a.toInt = 2 ∨ a.toInt = 3 ∨ a.toInt = 4 ∨ a.toInt = 5 by omega) with hs7 | hs7 | hs7 | hs7 | hs7 | hs7
              · obtain rfl : a = 0 := i_is hs7 (by decide)
                refine w_ialdv (j := 0) (x := (-1)) rfl rfl (by decide) (by unfold vp_in; decide) (hI _ fmI_83_0 (by decide)) ?_
                refine w_pushI rfl ?_
                refine w_icmp_ne rfl (fun h => absurd (by decide) h) (fun _ => ?_)
                refine w_pushI rfl ?_
                refine w_goto rfl ?_
                refine w_iret rfl (Or.inl rfl) ?_
                show gW _ _ _ _ _ _ _ _ _ _
                refine w_if_ge rfl (fun h => absurd h (by decide)) (fun _ => ?_)
                refine w_aload rfl rfl ?_
                refine w_iload rfl rfl ?_
                refine w_topv (z := 0) (by decide) ?_
                refine w_callVi (As := [_]) (le := [some _, some _]) rfl rfl rfl (Nat.le_of_ble_eq_true rfl) (Nat.le_of_ble_eq_true rfl) rfl ?_
                refine w_aload rfl rfl ?_
                refine w_getR (r := 83) rfl rfl (hR _ fmR_50_58 (by decide)) ?_
                refine w_iload rfl rfl ?_
                refine w_ialdv (j := 0) (x := (-1)) rfl rfl (by decide) (by unfold vp_in; decide) (hI _ fmI_83_0 (by decide)) ?_
                refine w_pushI rfl ?_
                refine w_icmp_ne rfl (fun h => absurd (by decide) h) (fun _ => ?_)
                refine w_pushI rfl ?_
                refine w_goto rfl ?_
                refine w_iret rfl (Or.inl rfl) ?_
                show gW _ _ _ _ _ _ _ _ _ _
                refine w_iret rfl (Or.inl rfl) ?_
                exact congrArg (fun v => some (Value.int v)) (show ((-11) : Int32) = f1_next (0) b c by have e0 : (0 : Int32).toInt = 0 := rfl; exact ite_eq_of (fun _ => rfl) (fun hc => absurd (by omega) hc))
              · obtain rfl : a = 1 := i_is hs7 (by decide)
                refine w_ialdv (j := 1) (x := (-1)) rfl rfl (by decide) (by unfold vp_in; decide) (hI _ fmI_83_1 (by decide)) ?_
                refine w_pushI rfl ?_
                refine w_icmp_ne rfl (fun h => absurd (by decide) h) (fun _ => ?_)
                refine w_pushI rfl ?_
                refine w_goto rfl ?_
                refine w_iret rfl (Or.inl rfl) ?_
                show gW _ _ _ _ _ _ _ _ _ _
                refine w_if_ge rfl (fun h => absurd h (by decide)) (fun _ => ?_)
                refine w_aload rfl rfl ?_
                refine w_iload rfl rfl ?_
                refine w_topv (z := 1) (by decide) ?_
                refine w_callVi (As := [_]) (le := [some _, some _]) rfl rfl rfl (Nat.le_of_ble_eq_true rfl) (Nat.le_of_ble_eq_true rfl) rfl ?_
                refine w_aload rfl rfl ?_
                refine w_getR (r := 83) rfl rfl (hR _ fmR_50_58 (by decide)) ?_
                refine w_iload rfl rfl ?_
                refine w_ialdv (j := 1) (x := (-1)) rfl rfl (by decide) (by unfold vp_in; decide) (hI _ fmI_83_1 (by decide)) ?_
                refine w_pushI rfl ?_
                refine w_icmp_ne rfl (fun h => absurd (by decide) h) (fun _ => ?_)
                refine w_pushI rfl ?_
                refine w_goto rfl ?_
                refine w_iret rfl (Or.inl rfl) ?_
                show gW _ _ _ _ _ _ _ _ _ _
                refine w_iret rfl (Or.inl rfl) ?_
                exact congrArg (fun v => some (Value.int v)) (show ((-11) : Int32) = f1_next (1) b c by have e0 : (1 : Int32).toInt = 1 := rfl; exact ite_eq_of (fun _ => rfl) (fun hc => absurd (by omega) hc))
              · obtain rfl : a = 2 := i_is hs7 (by decide)
                refine w_ialdv (j := 2) (x := (-1)) rfl rfl (by decide) (by unfold vp_in; decide) (hI _ fmI_83_2 (by decide)) ?_
                refine w_pushI rfl ?_
                refine w_icmp_ne rfl (fun h => absurd (by decide) h) (fun _ => ?_)
                refine w_pushI rfl ?_
                refine w_goto rfl ?_
                refine w_iret rfl (Or.inl rfl) ?_
                show gW _ _ _ _ _ _ _ _ _ _
                refine w_if_ge rfl (fun h => absurd h (by decide)) (fun _ => ?_)
                refine w_aload rfl rfl ?_
                refine w_iload rfl rfl ?_
                refine w_topv (z := 2) (by decide) ?_
                refine w_callVi (As := [_]) (le := [some _, some _]) rfl rfl rfl (Nat.le_of_ble_eq_true rfl) (Nat.le_of_ble_eq_true rfl) rfl ?_
                refine w_aload rfl rfl ?_
                refine w_getR (r := 83) rfl rfl (hR _ fmR_50_58 (by decide)) ?_
                refine w_iload rfl rfl ?_
                refine w_ialdv (j := 2) (x := (-1)) rfl rfl (by decide) (by unfold vp_in; decide) (hI _ fmI_83_2 (by decide)) ?_
                refine w_pushI rfl ?_
                refine w_icmp_ne rfl (fun h => absurd (by decide) h) (fun _ => ?_)
                refine w_pushI rfl ?_
                refine w_goto rfl ?_
                refine w_iret rfl (Or.inl rfl) ?_
                show gW _ _ _ _ _ _ _ _ _ _
                refine w_iret rfl (Or.inl rfl) ?_
                exact congrArg (fun v => some (Value.int v)) (show ((-11) : Int32) = f1_next (2) b c by have e0 : (2 : Int32).toInt = 2 := rfl; exact ite_eq_of (fun _ => rfl) (fun hc => absurd (by omega) hc))
              · obtain rfl : a = 3 := i_is hs7 (by decide)
                refine w_ialdv (j := 3) (x := (-1)) rfl rfl (by decide) (by unfold vp_in; decide) (hI _ fmI_83_3 (by decide)) ?_
                refine w_pushI rfl ?_
                refine w_icmp_ne rfl (fun h => absurd (by decide) h) (fun _ => ?_)
                refine w_pushI rfl ?_
                refine w_goto rfl ?_
                refine w_iret rfl (Or.inl rfl) ?_
                show gW _ _ _ _ _ _ _ _ _ _
                refine w_if_ge rfl (fun h => absurd h (by decide)) (fun _ => ?_)
                refine w_aload rfl rfl ?_
                refine w_iload rfl rfl ?_
                refine w_topv (z := 3) (by decide) ?_
                refine w_callVi (As := [_]) (le := [some _, some _]) rfl rfl rfl (Nat.le_of_ble_eq_true rfl) (Nat.le_of_ble_eq_true rfl) rfl ?_
                refine w_aload rfl rfl ?_
                refine w_getR (r := 83) rfl rfl (hR _ fmR_50_58 (by decide)) ?_
                refine w_iload rfl rfl ?_
                refine w_ialdv (j := 3) (x := (-1)) rfl rfl (by decide) (by unfold vp_in; decide) (hI _ fmI_83_3 (by decide)) ?_
                refine w_pushI rfl ?_
                refine w_icmp_ne rfl (fun h => absurd (by decide) h) (fun _ => ?_)
                refine w_pushI rfl ?_
                refine w_goto rfl ?_
                refine w_iret rfl (Or.inl rfl) ?_
                show gW _ _ _ _ _ _ _ _ _ _
                refine w_iret rfl (Or.inl rfl) ?_
                exact congrArg (fun v => some (Value.int v)) (show ((-11) : Int32) = f1_next (3) b c by have e0 : (3 : Int32).toInt = 3 := rfl; exact ite_eq_of (fun _ => rfl) (fun hc => absurd (by omega) hc))
              · obtain rfl : a = 4 := i_is hs7 (by decide)
                refine w_ialdv (j := 4) (x := (-1)) rfl rfl (by decide) (by unfold vp_in; decide) (hI _ fmI_83_4 (by decide)) ?_
                refine w_pushI rfl ?_
                refine w_icmp_ne rfl (fun h => absurd (by decide) h) (fun _ => ?_)
                refine w_pushI rfl ?_
                refine w_goto rfl ?_
                refine w_iret rfl (Or.inl rfl) ?_
                show gW _ _ _ _ _ _ _ _ _ _
                refine w_if_ge rfl (fun h => absurd h (by decide)) (fun _ => ?_)
                refine w_aload rfl rfl ?_
                refine w_iload rfl rfl ?_
                refine w_topv (z := 4) (by decide) ?_
                refine w_callVi (As := [_]) (le := [some _, some _]) rfl rfl rfl (Nat.le_of_ble_eq_true rfl) (Nat.le_of_ble_eq_true rfl) rfl ?_
                refine w_aload rfl rfl ?_
                refine w_getR (r := 83) rfl rfl (hR _ fmR_50_58 (by decide)) ?_
                refine w_iload rfl rfl ?_
                refine w_ialdv (j := 4) (x := (-1)) rfl rfl (by decide) (by unfold vp_in; decide) (hI _ fmI_83_4 (by decide)) ?_
                refine w_pushI rfl ?_
                refine w_icmp_ne rfl (fun h => absurd (by decide) h) (fun _ => ?_)
                refine w_pushI rfl ?_
                refine w_goto rfl ?_
                refine w_iret rfl (Or.inl rfl) ?_
                show gW _ _ _ _ _ _ _ _ _ _
                refine w_iret rfl (Or.inl rfl) ?_
                exact congrArg (fun v => some (Value.int v)) (show ((-11) : Int32) = f1_next (4) b c by have e0 : (4 : Int32).toInt = 4 := rfl; exact ite_eq_of (fun _ => rfl) (fun hc => absurd (by omega) hc))
              · obtain rfl : a = 5 := i_is hs7 (by decide)
                refine w_ialdv (j := 5) (x := (-1)) rfl rfl (by decide) (by unfold vp_in; decide) (hI _ fmI_83_5 (by decide)) ?_
                refine w_pushI rfl ?_
                refine w_icmp_ne rfl (fun h => absurd (by decide) h) (fun _ => ?_)
                refine w_pushI rfl ?_
                refine w_goto rfl ?_
                refine w_iret rfl (Or.inl rfl) ?_
                show gW _ _ _ _ _ _ _ _ _ _
                refine w_if_ge rfl (fun h => absurd h (by decide)) (fun _ => ?_)
                refine w_aload rfl rfl ?_
                refine w_iload rfl rfl ?_
                refine w_topv (z := 5) (by decide) ?_
                refine w_callVi (As := [_]) (le := [some _, some _]) rfl rfl rfl (Nat.le_of_ble_eq_true rfl) (Nat.le_of_ble_eq_true rfl) rfl ?_
                refine w_aload rfl rfl ?_
                refine w_getR (r := 83) rfl rfl (hR _ fmR_50_58 (by decide)) ?_
                refine w_iload rfl rfl ?_
                refine w_ialdv (j := 5) (x := (-1)) rfl rfl (by decide) (by unfold vp_in; decide) (hI _ fmI_83_5 (by decide)) ?_
                refine w_pushI rfl ?_
                refine w_icmp_ne rfl (fun h => absurd (by decide) h) (fun _ => ?_)
                refine w_pushI rfl ?_
                refine w_goto rfl ?_
                refine w_iret rfl (Or.inl rfl) ?_
                show gW _ _ _ _ _ _ _ _ _ _
                refine w_iret rfl (Or.inl rfl) ?_
                exact congrArg (fun v => some (Value.int v)) (show ((-11) : Int32) = f1_next (5) b c by have e0 : (5 : Int32).toInt = 5 := rfl; exact ite_eq_of (fun _ => rfl) (fun hc => absurd (by omega) hc))
set_option maxHeartbeats 40000000 in
set_option maxRecDepth 100000 in
theorem a1_stay {X : Nat × (Nat → Int32)} {d : Nat} {I : Nat → Nat → Int32} {L : Nat → Nat → Int64} {R : Nat → Nat → Option Nat} (hI : ∀ q ∈ gFlI, I q.1 q.2.1 = q.2.2) (hL : ∀ q ∈ gFlL, L q.1 q.2.1 = q.2.2) (hR : ∀ q ∈ gFlR, R q.1 q.2.1 = some q.2.2) (a : Int32) (b : Int32) : gW X (d + 12) 113 0 0 0 (gEn 113 [.ref 0, .int a, .int b]) [] (gK 87, I, L, R) (fun r σ => r = some (.int (f1_stay a b)) ∧ gFr σ I L R) := by
  show gW _ _ _ _ _ _ [some (.ref 0), some (.int a), some (.int b), none] _ _ _
  refine w_iload rfl rfl ?_
  refine w_callSi (As := [_]) (le := [some _]) rfl rfl (Nat.le_of_ble_eq_true rfl) (Nat.le_of_ble_eq_true rfl) rfl ?_
  refine w_iload rfl rfl ?_
  refine w_if_ltZ rfl rfl (fun h1 => ?_) (fun h1 => ?_)
  · refine w_pushI rfl ?_
    refine w_iret rfl (Or.inr ⟨rfl, by decide⟩) ?_
    show gW _ _ _ _ _ _ _ _ _ _
    refine w_if_eq rfl (fun _ => ?_) (fun h => absurd (by decide) h)
    refine w_pushI rfl ?_
    refine w_iret rfl (Or.inl rfl) ?_
    exact ⟨congrArg (fun v => some (Value.int v)) (show ((-1) : Int32) = f1_stay a b by exact ite_eq_of (fun hc => absurd hc (by omega)) (fun _ => rfl)), rfl, fun x hx => rfl, fun x hx => rfl, fun x hx => rfl⟩
  · refine w_iload rfl rfl ?_
    refine w_pushI rfl ?_
    refine w_icmp_geZ (b := 6) rfl rfl (by decide) (fun h2 => ?_) (fun h2 => ?_)
    · refine w_pushI rfl ?_
      refine w_iret rfl (Or.inr ⟨rfl, by decide⟩) ?_
      show gW _ _ _ _ _ _ _ _ _ _
      refine w_if_eq rfl (fun _ => ?_) (fun h => absurd (by decide) h)
      refine w_pushI rfl ?_
      refine w_iret rfl (Or.inl rfl) ?_
      exact ⟨congrArg (fun v => some (Value.int v)) (show ((-1) : Int32) = f1_stay a b by exact ite_eq_of (fun hc => absurd hc (by omega)) (fun _ => rfl)), rfl, fun x hx => rfl, fun x hx => rfl, fun x hx => rfl⟩
    · refine w_pushI rfl ?_
      refine w_goto rfl ?_
      refine w_iret rfl (Or.inr ⟨rfl, by decide⟩) ?_
      show gW _ _ _ _ _ _ _ _ _ _
      refine w_if_eq rfl (fun h => absurd h (by decide)) (fun _ => ?_)
      refine w_iload rfl rfl ?_
      refine w_if_ltZ rfl rfl (fun h3 => ?_) (fun h3 => ?_)
      · refine w_pushI rfl ?_
        refine w_iret rfl (Or.inl rfl) ?_
        exact ⟨congrArg (fun v => some (Value.int v)) (show ((-1) : Int32) = f1_stay a b by exact ite_eq_of (fun hc => absurd hc (by omega)) (fun _ => rfl)), rfl, fun x hx => rfl, fun x hx => rfl, fun x hx => rfl⟩
      · refine w_iload rfl rfl ?_
        refine w_pushI rfl ?_
        refine w_icmp_ltZ (b := 1000000) rfl rfl (by decide) (fun h4 => ?_) (fun h4 => ?_)
        · refine w_aload rfl rfl ?_
          refine w_getR (r := 10) rfl rfl (hR _ fmR_0_2) ?_
          refine w_aload rfl rfl ?_
          refine w_getR (r := 37) rfl rfl (hR _ fmR_0_11) ?_
          refine w_iload rfl rfl ?_
          rcases (show a.toInt = 0 ∨ a.toInt = 1 ∨ a.toInt = 2 ∨ a.toInt = 3 ∨ a.toInt = 4 ∨ a.toInt = 5 by omega) with hs5 | hs5 | hs5 | hs5 | hs5 | hs5
          · obtain rfl : a = 0 := i_is hs5 (by decide)
            refine w_aaldv (j := 0) (r := 38) rfl rfl (by decide) (by unfold vp_in; decide) (hR _ fmR_37_0) ?_
            refine w_callVi (As := [_]) (le := [some _, some _, none, none, none]) rfl rfl rfl (Nat.le_of_ble_eq_true rfl) (Nat.le_of_ble_eq_true rfl) rfl ?_
            refine w_aload rfl rfl ?_
            refine w_callVi (As := []) (le := [some _]) rfl rfl rfl (Nat.le_of_ble_eq_true rfl) (Nat.le_of_ble_eq_true rfl) rfl ?_
            refine w_aload rfl rfl ?_
            refine w_getIv (x := 0) rfl rfl (hI _ fmI_38_0) ?_
            refine w_if_ne rfl (fun h => absurd (by decide) h) (fun _ => ?_)
            refine w_pushI rfl ?_
            refine w_iret rfl (Or.inl rfl) ?_
            show gW _ _ _ _ _ _ _ _ _ _
            refine w_istore rfl rfl ?_
            refine w_iload rfl rfl ?_
            refine w_if_ge rfl (fun h => absurd h (by decide)) (fun _ => ?_)
            refine w_iload rfl rfl ?_
            refine w_iret rfl (Or.inl rfl) ?_
            show gW _ _ _ _ _ _ _ _ _ _
            refine w_istore rfl rfl ?_
            refine w_iload rfl rfl ?_
            refine w_if_ge rfl (fun h => absurd h (by decide)) (fun _ => ?_)
            refine w_iload rfl rfl ?_
            refine w_iret rfl (Or.inl rfl) ?_
            exact ⟨congrArg (fun v => some (Value.int v)) (show ((-11) : Int32) = f1_stay (0) b by have e0 : (0 : Int32).toInt = 0 := rfl; exact ite_eq_of (fun _ => rfl) (fun hc => absurd (by omega) hc)), rfl, fun x hx => rfl, fun x hx => rfl, fun x hx => rfl⟩
          · obtain rfl : a = 1 := i_is hs5 (by decide)
            refine w_aaldv (j := 1) (r := 40) rfl rfl (by decide) (by unfold vp_in; decide) (hR _ fmR_37_1) ?_
            refine w_callVi (As := [_]) (le := [some _, some _, none, none, none]) rfl rfl rfl (Nat.le_of_ble_eq_true rfl) (Nat.le_of_ble_eq_true rfl) rfl ?_
            refine w_aload rfl rfl ?_
            refine w_callVi (As := []) (le := [some _]) rfl rfl rfl (Nat.le_of_ble_eq_true rfl) (Nat.le_of_ble_eq_true rfl) rfl ?_
            refine w_aload rfl rfl ?_
            refine w_getIv (x := 0) rfl rfl (hI _ fmI_40_0) ?_
            refine w_if_ne rfl (fun h => absurd (by decide) h) (fun _ => ?_)
            refine w_pushI rfl ?_
            refine w_iret rfl (Or.inl rfl) ?_
            show gW _ _ _ _ _ _ _ _ _ _
            refine w_istore rfl rfl ?_
            refine w_iload rfl rfl ?_
            refine w_if_ge rfl (fun h => absurd h (by decide)) (fun _ => ?_)
            refine w_iload rfl rfl ?_
            refine w_iret rfl (Or.inl rfl) ?_
            show gW _ _ _ _ _ _ _ _ _ _
            refine w_istore rfl rfl ?_
            refine w_iload rfl rfl ?_
            refine w_if_ge rfl (fun h => absurd h (by decide)) (fun _ => ?_)
            refine w_iload rfl rfl ?_
            refine w_iret rfl (Or.inl rfl) ?_
            exact ⟨congrArg (fun v => some (Value.int v)) (show ((-11) : Int32) = f1_stay (1) b by have e0 : (1 : Int32).toInt = 1 := rfl; exact ite_eq_of (fun _ => rfl) (fun hc => absurd (by omega) hc)), rfl, fun x hx => rfl, fun x hx => rfl, fun x hx => rfl⟩
          · obtain rfl : a = 2 := i_is hs5 (by decide)
            refine w_aaldv (j := 2) (r := 42) rfl rfl (by decide) (by unfold vp_in; decide) (hR _ fmR_37_2) ?_
            refine w_callVi (As := [_]) (le := [some _, some _, none, none, none]) rfl rfl rfl (Nat.le_of_ble_eq_true rfl) (Nat.le_of_ble_eq_true rfl) rfl ?_
            refine w_aload rfl rfl ?_
            refine w_callVi (As := []) (le := [some _]) rfl rfl rfl (Nat.le_of_ble_eq_true rfl) (Nat.le_of_ble_eq_true rfl) rfl ?_
            refine w_aload rfl rfl ?_
            refine w_getIv (x := 0) rfl rfl (hI _ fmI_42_0) ?_
            refine w_if_ne rfl (fun h => absurd (by decide) h) (fun _ => ?_)
            refine w_pushI rfl ?_
            refine w_iret rfl (Or.inl rfl) ?_
            show gW _ _ _ _ _ _ _ _ _ _
            refine w_istore rfl rfl ?_
            refine w_iload rfl rfl ?_
            refine w_if_ge rfl (fun h => absurd h (by decide)) (fun _ => ?_)
            refine w_iload rfl rfl ?_
            refine w_iret rfl (Or.inl rfl) ?_
            show gW _ _ _ _ _ _ _ _ _ _
            refine w_istore rfl rfl ?_
            refine w_iload rfl rfl ?_
            refine w_if_ge rfl (fun h => absurd h (by decide)) (fun _ => ?_)
            refine w_iload rfl rfl ?_
            refine w_iret rfl (Or.inl rfl) ?_
            exact ⟨congrArg (fun v => some (Value.int v)) (show ((-11) : Int32) = f1_stay (2) b by have e0 : (2 : Int32).toInt = 2 := rfl; exact ite_eq_of (fun _ => rfl) (fun hc => absurd (by omega) hc)), rfl, fun x hx => rfl, fun x hx => rfl, fun x hx => rfl⟩
          · obtain rfl : a = 3 := i_is hs5 (by decide)
            refine w_aaldv (j := 3) (r := 44) rfl rfl (by decide) (by unfold vp_in; decide) (hR _ fmR_37_3) ?_
            refine w_callVi (As := [_]) (le := [some _, some _, none, none, none]) rfl rfl rfl (Nat.le_of_ble_eq_true rfl) (Nat.le_of_ble_eq_true rfl) rfl ?_
            refine w_aload rfl rfl ?_
            refine w_callVi (As := []) (le := [some _]) rfl rfl rfl (Nat.le_of_ble_eq_true rfl) (Nat.le_of_ble_eq_true rfl) rfl ?_
            refine w_aload rfl rfl ?_
            refine w_getIv (x := 0) rfl rfl (hI _ fmI_44_0) ?_
            refine w_if_ne rfl (fun h => absurd (by decide) h) (fun _ => ?_)
            refine w_pushI rfl ?_
            refine w_iret rfl (Or.inl rfl) ?_
            show gW _ _ _ _ _ _ _ _ _ _
            refine w_istore rfl rfl ?_
            refine w_iload rfl rfl ?_
            refine w_if_ge rfl (fun h => absurd h (by decide)) (fun _ => ?_)
            refine w_iload rfl rfl ?_
            refine w_iret rfl (Or.inl rfl) ?_
            show gW _ _ _ _ _ _ _ _ _ _
            refine w_istore rfl rfl ?_
            refine w_iload rfl rfl ?_
            refine w_if_ge rfl (fun h => absurd h (by decide)) (fun _ => ?_)
            refine w_iload rfl rfl ?_
            refine w_iret rfl (Or.inl rfl) ?_
            exact ⟨congrArg (fun v => some (Value.int v)) (show ((-11) : Int32) = f1_stay (3) b by have e0 : (3 : Int32).toInt = 3 := rfl; exact ite_eq_of (fun _ => rfl) (fun hc => absurd (by omega) hc)), rfl, fun x hx => rfl, fun x hx => rfl, fun x hx => rfl⟩
          · obtain rfl : a = 4 := i_is hs5 (by decide)
            refine w_aaldv (j := 4) (r := 46) rfl rfl (by decide) (by unfold vp_in; decide) (hR _ fmR_37_4) ?_
            refine w_callVi (As := [_]) (le := [some _, some _, none, none, none]) rfl rfl rfl (Nat.le_of_ble_eq_true rfl) (Nat.le_of_ble_eq_true rfl) rfl ?_
            refine w_aload rfl rfl ?_
            refine w_callVi (As := []) (le := [some _]) rfl rfl rfl (Nat.le_of_ble_eq_true rfl) (Nat.le_of_ble_eq_true rfl) rfl ?_
            refine w_aload rfl rfl ?_
            refine w_getIv (x := 0) rfl rfl (hI _ fmI_46_0) ?_
            refine w_if_ne rfl (fun h => absurd (by decide) h) (fun _ => ?_)
            refine w_pushI rfl ?_
            refine w_iret rfl (Or.inl rfl) ?_
            show gW _ _ _ _ _ _ _ _ _ _
            refine w_istore rfl rfl ?_
            refine w_iload rfl rfl ?_
            refine w_if_ge rfl (fun h => absurd h (by decide)) (fun _ => ?_)
            refine w_iload rfl rfl ?_
            refine w_iret rfl (Or.inl rfl) ?_
            show gW _ _ _ _ _ _ _ _ _ _
            refine w_istore rfl rfl ?_
            refine w_iload rfl rfl ?_
            refine w_if_ge rfl (fun h => absurd h (by decide)) (fun _ => ?_)
            refine w_iload rfl rfl ?_
            refine w_iret rfl (Or.inl rfl) ?_
            exact ⟨congrArg (fun v => some (Value.int v)) (show ((-11) : Int32) = f1_stay (4) b by have e0 : (4 : Int32).toInt = 4 := rfl; exact ite_eq_of (fun _ => rfl) (fun hc => absurd (by omega) hc)), rfl, fun x hx => rfl, fun x hx => rfl, fun x hx => rfl⟩
          · obtain rfl : a = 5 := i_is hs5 (by decide)
            refine w_aaldv (j := 5) (r := 48) rfl rfl (by decide) (by unfold vp_in; decide) (hR _ fmR_37_5) ?_
            refine w_callVi (As := [_]) (le := [some _, some _, none, none, none]) rfl rfl rfl (Nat.le_of_ble_eq_true rfl) (Nat.le_of_ble_eq_true rfl) rfl ?_
            refine w_aload rfl rfl ?_
            refine w_callVi (As := []) (le := [some _]) rfl rfl rfl (Nat.le_of_ble_eq_true rfl) (Nat.le_of_ble_eq_true rfl) rfl ?_
            refine w_aload rfl rfl ?_
            refine w_getIv (x := 0) rfl rfl (hI _ fmI_48_0) ?_
            refine w_if_ne rfl (fun h => absurd (by decide) h) (fun _ => ?_)
            refine w_pushI rfl ?_
            refine w_iret rfl (Or.inl rfl) ?_
            show gW _ _ _ _ _ _ _ _ _ _
            refine w_istore rfl rfl ?_
            refine w_iload rfl rfl ?_
            refine w_if_ge rfl (fun h => absurd h (by decide)) (fun _ => ?_)
            refine w_iload rfl rfl ?_
            refine w_iret rfl (Or.inl rfl) ?_
            show gW _ _ _ _ _ _ _ _ _ _
            refine w_istore rfl rfl ?_
            refine w_iload rfl rfl ?_
            refine w_if_ge rfl (fun h => absurd h (by decide)) (fun _ => ?_)
            refine w_iload rfl rfl ?_
            refine w_iret rfl (Or.inl rfl) ?_
            exact ⟨congrArg (fun v => some (Value.int v)) (show ((-11) : Int32) = f1_stay (5) b by have e0 : (5 : Int32).toInt = 5 := rfl; exact ite_eq_of (fun _ => rfl) (fun hc => absurd (by omega) hc)), rfl, fun x hx => rfl, fun x hx => rfl, fun x hx => rfl⟩
        · refine w_pushI rfl ?_
          refine w_iret rfl (Or.inl rfl) ?_
          exact ⟨congrArg (fun v => some (Value.int v)) (show ((-1) : Int32) = f1_stay a b by exact ite_eq_of (fun hc => absurd hc (by omega)) (fun _ => rfl)), rfl, fun x hx => rfl, fun x hx => rfl, fun x hx => rfl⟩
set_option maxHeartbeats 40000000 in
set_option maxRecDepth 100000 in
theorem a2_stay {X : Nat × (Nat → Int32)} {d : Nat} {I : Nat → Nat → Int32} {L : Nat → Nat → Int64} {R : Nat → Nat → Option Nat} (hI : ∀ q ∈ gFlI, 50 ≤ q.1 → I q.1 q.2.1 = q.2.2) (hL : ∀ q ∈ gFlL, 50 ≤ q.1 → L q.1 q.2.1 = q.2.2) (hR : ∀ q ∈ gFlR, 50 ≤ q.1 → R q.1 q.2.1 = some q.2.2) (a : Int32) (b : Int32) : gW X (d + 12) 203 0 0 0 (gEn 203 [.ref 50, .int a, .int b]) [] (gK 87, I, L, R) (fun r _ => r = some (.int (f1_stay a b))) := by
  show gW _ _ _ _ _ _ [some (.ref 50), some (.int a), some (.int b), none, none] _ _ _
  refine w_iload rfl rfl ?_
  refine w_callSi (As := [_]) (le := [some _]) rfl rfl (Nat.le_of_ble_eq_true rfl) (Nat.le_of_ble_eq_true rfl) rfl ?_
  refine w_iload rfl rfl ?_
  refine w_pushI rfl ?_
  refine w_pushI rfl ?_
  refine w_callSi (As := [_, _, _]) (le := [some _, some _, some _]) rfl rfl (Nat.le_of_ble_eq_true rfl) (Nat.le_of_ble_eq_true rfl) rfl ?_
  refine w_iload rfl rfl ?_
  refine w_iload rfl rfl ?_
  refine w_icmp_ltZ (b := 0) rfl rfl (by decide) (fun h1 => ?_) (fun h1 => ?_)
  · refine w_pushI rfl ?_
    refine w_iret rfl (Or.inr ⟨rfl, by decide⟩) ?_
    show gW _ _ _ _ _ _ _ _ _ _
    refine w_iret rfl (Or.inr ⟨rfl, by decide⟩) ?_
    show gW _ _ _ _ _ _ _ _ _ _
    refine w_if_eq rfl (fun _ => ?_) (fun h => absurd (by decide) h)
    refine w_pushI rfl ?_
    refine w_iret rfl (Or.inl rfl) ?_
    exact congrArg (fun v => some (Value.int v)) (show ((-1) : Int32) = f1_stay a b by exact ite_eq_of (fun hc => absurd hc (by omega)) (fun _ => rfl))
  · refine w_iload rfl rfl ?_
    refine w_iload rfl rfl ?_
    refine w_icmp_gtZ (b := 5) rfl rfl (by decide) (fun h2 => ?_) (fun h2 => ?_)
    · refine w_pushI rfl ?_
      refine w_iret rfl (Or.inr ⟨rfl, by decide⟩) ?_
      show gW _ _ _ _ _ _ _ _ _ _
      refine w_iret rfl (Or.inr ⟨rfl, by decide⟩) ?_
      show gW _ _ _ _ _ _ _ _ _ _
      refine w_if_eq rfl (fun _ => ?_) (fun h => absurd (by decide) h)
      refine w_pushI rfl ?_
      refine w_iret rfl (Or.inl rfl) ?_
      exact congrArg (fun v => some (Value.int v)) (show ((-1) : Int32) = f1_stay a b by exact ite_eq_of (fun hc => absurd hc (by omega)) (fun _ => rfl))
    · refine w_pushI rfl ?_
      refine w_goto rfl ?_
      refine w_iret rfl (Or.inr ⟨rfl, by decide⟩) ?_
      show gW _ _ _ _ _ _ _ _ _ _
      refine w_iret rfl (Or.inr ⟨rfl, by decide⟩) ?_
      show gW _ _ _ _ _ _ _ _ _ _
      refine w_if_eq rfl (fun h => absurd h (by decide)) (fun _ => ?_)
      refine w_iload rfl rfl ?_
      refine w_pushI rfl ?_
      refine w_pushI rfl ?_
      refine w_callSi (As := [_, _, _]) (le := [some _, some _, some _]) rfl rfl (Nat.le_of_ble_eq_true rfl) (Nat.le_of_ble_eq_true rfl) rfl ?_
      refine w_iload rfl rfl ?_
      refine w_iload rfl rfl ?_
      refine w_icmp_ltZ (b := 0) rfl rfl (by decide) (fun h3 => ?_) (fun h3 => ?_)
      · refine w_pushI rfl ?_
        refine w_iret rfl (Or.inr ⟨rfl, by decide⟩) ?_
        show gW _ _ _ _ _ _ _ _ _ _
        refine w_if_ne rfl (fun h => absurd (by decide) h) (fun _ => ?_)
        refine w_pushI rfl ?_
        refine w_iret rfl (Or.inl rfl) ?_
        exact congrArg (fun v => some (Value.int v)) (show ((-1) : Int32) = f1_stay a b by exact ite_eq_of (fun hc => absurd hc (by omega)) (fun _ => rfl))
      · refine w_iload rfl rfl ?_
        refine w_iload rfl rfl ?_
        refine w_icmp_gtZ (b := 999999) rfl rfl (by decide) (fun h4 => ?_) (fun h4 => ?_)
        · refine w_pushI rfl ?_
          refine w_iret rfl (Or.inr ⟨rfl, by decide⟩) ?_
          show gW _ _ _ _ _ _ _ _ _ _
          refine w_if_ne rfl (fun h => absurd (by decide) h) (fun _ => ?_)
          refine w_pushI rfl ?_
          refine w_iret rfl (Or.inl rfl) ?_
          exact congrArg (fun v => some (Value.int v)) (show ((-1) : Int32) = f1_stay a b by exact ite_eq_of (fun hc => absurd hc (by omega)) (fun _ => rfl))
        · refine w_pushI rfl ?_
          refine w_goto rfl ?_
          refine w_iret rfl (Or.inr ⟨rfl, by decide⟩) ?_
          show gW _ _ _ _ _ _ _ _ _ _
          refine w_if_ne rfl (fun _ => ?_) (fun h => absurd h (by decide))
          refine w_aload rfl rfl ?_
          refine w_iload rfl rfl ?_
          refine w_callVi (As := [_]) (le := [some _, some _]) rfl rfl rfl (Nat.le_of_ble_eq_true rfl) (Nat.le_of_ble_eq_true rfl) rfl ?_
          refine w_aload rfl rfl ?_
          refine w_getR (r := 83) rfl rfl (hR _ fmR_50_58 (by decide)) ?_
          refine w_iload rfl rfl ?_
          rcases (show a.toInt = 0 ∨ a.toInt = 1 ∨ a.toInt = 2 ∨ a.toInt = 3 ∨ a.toInt = 4 ∨ a.toInt = 5 by omega) with hs5 | hs5 | hs5 | hs5 | hs5 | hs5
          · obtain rfl : a = 0 := i_is hs5 (by decide)
            refine w_ialdv (j := 0) (x := (-1)) rfl rfl (by decide) (by unfold vp_in; decide) (hI _ fmI_83_0 (by decide)) ?_
            refine w_pushI rfl ?_
            refine w_icmp_ne rfl (fun h => absurd (by decide) h) (fun _ => ?_)
            refine w_pushI rfl ?_
            refine w_goto rfl ?_
            refine w_iret rfl (Or.inl rfl) ?_
            show gW _ _ _ _ _ _ _ _ _ _
            refine w_if_ge rfl (fun h => absurd h (by decide)) (fun _ => ?_)
            refine w_aload rfl rfl ?_
            refine w_iload rfl rfl ?_
            refine w_topv (z := 0) (by decide) ?_
            refine w_callVi (As := [_]) (le := [some _, some _]) rfl rfl rfl (Nat.le_of_ble_eq_true rfl) (Nat.le_of_ble_eq_true rfl) rfl ?_
            refine w_aload rfl rfl ?_
            refine w_getR (r := 83) rfl rfl (hR _ fmR_50_58 (by decide)) ?_
            refine w_iload rfl rfl ?_
            refine w_ialdv (j := 0) (x := (-1)) rfl rfl (by decide) (by unfold vp_in; decide) (hI _ fmI_83_0 (by decide)) ?_
            refine w_pushI rfl ?_
            refine w_icmp_ne rfl (fun h => absurd (by decide) h) (fun _ => ?_)
            refine w_pushI rfl ?_
            refine w_goto rfl ?_
            refine w_iret rfl (Or.inl rfl) ?_
            show gW _ _ _ _ _ _ _ _ _ _
            refine w_iret rfl (Or.inl rfl) ?_
            exact congrArg (fun v => some (Value.int v)) (show ((-11) : Int32) = f1_stay (0) b by have e0 : (0 : Int32).toInt = 0 := rfl; exact ite_eq_of (fun _ => rfl) (fun hc => absurd (by omega) hc))
          · obtain rfl : a = 1 := i_is hs5 (by decide)
            refine w_ialdv (j := 1) (x := (-1)) rfl rfl (by decide) (by unfold vp_in; decide) (hI _ fmI_83_1 (by decide)) ?_
            refine w_pushI rfl ?_
            refine w_icmp_ne rfl (fun h => absurd (by decide) h) (fun _ => ?_)
            refine w_pushI rfl ?_
            refine w_goto rfl ?_
            refine w_iret rfl (Or.inl rfl) ?_
            show gW _ _ _ _ _ _ _ _ _ _
            refine w_if_ge rfl (fun h => absurd h (by decide)) (fun _ => ?_)
            refine w_aload rfl rfl ?_
            refine w_iload rfl rfl ?_
            refine w_topv (z := 1) (by decide) ?_
            refine w_callVi (As := [_]) (le := [some _, some _]) rfl rfl rfl (Nat.le_of_ble_eq_true rfl) (Nat.le_of_ble_eq_true rfl) rfl ?_
            refine w_aload rfl rfl ?_
            refine w_getR (r := 83) rfl rfl (hR _ fmR_50_58 (by decide)) ?_
            refine w_iload rfl rfl ?_
            refine w_ialdv (j := 1) (x := (-1)) rfl rfl (by decide) (by unfold vp_in; decide) (hI _ fmI_83_1 (by decide)) ?_
            refine w_pushI rfl ?_
            refine w_icmp_ne rfl (fun h => absurd (by decide) h) (fun _ => ?_)
            refine w_pushI rfl ?_
            refine w_goto rfl ?_
            refine w_iret rfl (Or.inl rfl) ?_
            show gW _ _ _ _ _ _ _ _ _ _
            refine w_iret rfl (Or.inl rfl) ?_
            exact congrArg (fun v => some (Value.int v)) (show ((-11) : Int32) = f1_stay (1) b by have e0 : (1 : Int32).toInt = 1 := rfl; exact ite_eq_of (fun _ => rfl) (fun hc => absurd (by omega) hc))
          · obtain rfl : a = 2 := i_is hs5 (by decide)
            refine w_ialdv (j := 2) (x := (-1)) rfl rfl (by decide) (by unfold vp_in; decide) (hI _ fmI_83_2 (by decide)) ?_
            refine w_pushI rfl ?_
            refine w_icmp_ne rfl (fun h => absurd (by decide) h) (fun _ => ?_)
            refine w_pushI rfl ?_
            refine w_goto rfl ?_
            refine w_iret rfl (Or.inl rfl) ?_
            show gW _ _ _ _ _ _ _ _ _ _
            refine w_if_ge rfl (fun h => absurd h (by decide)) (fun _ => ?_)
            refine w_aload rfl rfl ?_
            refine w_iload rfl rfl ?_
            refine w_topv (z := 2) (by decide) ?_
            refine w_callVi (As := [_]) (le := [some _, some _]) rfl rfl rfl (Nat.le_of_ble_eq_true rfl) (Nat.le_of_ble_eq_true rfl) rfl ?_
            refine w_aload rfl rfl ?_
            refine w_getR (r := 83) rfl rfl (hR _ fmR_50_58 (by decide)) ?_
            refine w_iload rfl rfl ?_
            refine w_ialdv (j := 2) (x := (-1)) rfl rfl (by decide) (by unfold vp_in; decide) (hI _ fmI_83_2 (by decide)) ?_
            refine w_pushI rfl ?_
            refine w_icmp_ne rfl (fun h => absurd (by decide) h) (fun _ => ?_)
            refine w_pushI rfl ?_
            refine w_goto rfl ?_
            refine w_iret rfl (Or.inl rfl) ?_
            show gW _ _ _ _ _ _ _ _ _ _
            refine w_iret rfl (Or.inl rfl) ?_
            exact congrArg (fun v => some (Value.int v)) (show ((-11) : Int32) = f1_stay (2) b by have e0 : (2 : Int32).toInt = 2 := rfl; exact ite_eq_of (fun _ => rfl) (fun hc => absurd (by omega) hc))
          · obtain rfl : a = 3 := i_is hs5 (by decide)
            refine w_ialdv (j := 3) (x := (-1)) rfl rfl (by decide) (by unfold vp_in; decide) (hI _ fmI_83_3 (by decide)) ?_
            refine w_pushI rfl ?_
            refine w_icmp_ne rfl (fun h => absurd (by decide) h) (fun _ => ?_)
            refine w_pushI rfl ?_
            refine w_goto rfl ?_
            refine w_iret rfl (Or.inl rfl) ?_
            show gW _ _ _ _ _ _ _ _ _ _
            refine w_if_ge rfl (fun h => absurd h (by decide)) (fun _ => ?_)
            refine w_aload rfl rfl ?_
            refine w_iload rfl rfl ?_
            refine w_topv (z := 3) (by decide) ?_
            refine w_callVi (As := [_]) (le := [some _, some _]) rfl rfl rfl (Nat.le_of_ble_eq_true rfl) (Nat.le_of_ble_eq_true rfl) rfl ?_
            refine w_aload rfl rfl ?_
            refine w_getR (r := 83) rfl rfl (hR _ fmR_50_58 (by decide)) ?_
            refine w_iload rfl rfl ?_
            refine w_ialdv (j := 3) (x := (-1)) rfl rfl (by decide) (by unfold vp_in; decide) (hI _ fmI_83_3 (by decide)) ?_
            refine w_pushI rfl ?_
            refine w_icmp_ne rfl (fun h => absurd (by decide) h) (fun _ => ?_)
            refine w_pushI rfl ?_
            refine w_goto rfl ?_
            refine w_iret rfl (Or.inl rfl) ?_
            show gW _ _ _ _ _ _ _ _ _ _
            refine w_iret rfl (Or.inl rfl) ?_
            exact congrArg (fun v => some (Value.int v)) (show ((-11) : Int32) = f1_stay (3) b by have e0 : (3 : Int32).toInt = 3 := rfl; exact ite_eq_of (fun _ => rfl) (fun hc => absurd (by omega) hc))
          · obtain rfl : a = 4 := i_is hs5 (by decide)
            refine w_ialdv (j := 4) (x := (-1)) rfl rfl (by decide) (by unfold vp_in; decide) (hI _ fmI_83_4 (by decide)) ?_
            refine w_pushI rfl ?_
            refine w_icmp_ne rfl (fun h => absurd (by decide) h) (fun _ => ?_)
            refine w_pushI rfl ?_
            refine w_goto rfl ?_
            refine w_iret rfl (Or.inl rfl) ?_
            show gW _ _ _ _ _ _ _ _ _ _
            refine w_if_ge rfl (fun h => absurd h (by decide)) (fun _ => ?_)
            refine w_aload rfl rfl ?_
            refine w_iload rfl rfl ?_
            refine w_topv (z := 4) (by decide) ?_
            refine w_callVi (As := [_]) (le := [some _, some _]) rfl rfl rfl (Nat.le_of_ble_eq_true rfl) (Nat.le_of_ble_eq_true rfl) rfl ?_
            refine w_aload rfl rfl ?_
            refine w_getR (r := 83) rfl rfl (hR _ fmR_50_58 (by decide)) ?_
            refine w_iload rfl rfl ?_
            refine w_ialdv (j := 4) (x := (-1)) rfl rfl (by decide) (by unfold vp_in; decide) (hI _ fmI_83_4 (by decide)) ?_
            refine w_pushI rfl ?_
            refine w_icmp_ne rfl (fun h => absurd (by decide) h) (fun _ => ?_)
            refine w_pushI rfl ?_
            refine w_goto rfl ?_
            refine w_iret rfl (Or.inl rfl) ?_
            show gW _ _ _ _ _ _ _ _ _ _
            refine w_iret rfl (Or.inl rfl) ?_
            exact congrArg (fun v => some (Value.int v)) (show ((-11) : Int32) = f1_stay (4) b by have e0 : (4 : Int32).toInt = 4 := rfl; exact ite_eq_of (fun _ => rfl) (fun hc => absurd (by omega) hc))
          · obtain rfl : a = 5 := i_is hs5 (by decide)
            refine w_ialdv (j := 5) (x := (-1)) rfl rfl (by decide) (by unfold vp_in; decide) (hI _ fmI_83_5 (by decide)) ?_
            refine w_pushI rfl ?_
            refine w_icmp_ne rfl (fun h => absurd (by decide) h) (fun _ => ?_)
            refine w_pushI rfl ?_
            refine w_goto rfl ?_
            refine w_iret rfl (Or.inl rfl) ?_
            show gW _ _ _ _ _ _ _ _ _ _
            refine w_if_ge rfl (fun h => absurd h (by decide)) (fun _ => ?_)
            refine w_aload rfl rfl ?_
            refine w_iload rfl rfl ?_
            refine w_topv (z := 5) (by decide) ?_
            refine w_callVi (As := [_]) (le := [some _, some _]) rfl rfl rfl (Nat.le_of_ble_eq_true rfl) (Nat.le_of_ble_eq_true rfl) rfl ?_
            refine w_aload rfl rfl ?_
            refine w_getR (r := 83) rfl rfl (hR _ fmR_50_58 (by decide)) ?_
            refine w_iload rfl rfl ?_
            refine w_ialdv (j := 5) (x := (-1)) rfl rfl (by decide) (by unfold vp_in; decide) (hI _ fmI_83_5 (by decide)) ?_
            refine w_pushI rfl ?_
            refine w_icmp_ne rfl (fun h => absurd (by decide) h) (fun _ => ?_)
            refine w_pushI rfl ?_
            refine w_goto rfl ?_
            refine w_iret rfl (Or.inl rfl) ?_
            show gW _ _ _ _ _ _ _ _ _ _
            refine w_iret rfl (Or.inl rfl) ?_
            exact congrArg (fun v => some (Value.int v)) (show ((-11) : Int32) = f1_stay (5) b by have e0 : (5 : Int32).toInt = 5 := rfl; exact ite_eq_of (fun _ => rfl) (fun hc => absurd (by omega) hc))
set_option maxHeartbeats 40000000 in
set_option maxRecDepth 100000 in
theorem a1_best {X : Nat × (Nat → Int32)} {d : Nat} {I : Nat → Nat → Int32} {L : Nat → Nat → Int64} {R : Nat → Nat → Option Nat} (hI : ∀ q ∈ gFlI, I q.1 q.2.1 = q.2.2) (hL : ∀ q ∈ gFlL, L q.1 q.2.1 = q.2.2) (hR : ∀ q ∈ gFlR, R q.1 q.2.1 = some q.2.2) (a : Int32) (b : Int32) (c : Int32) : gW X (d + 12) 114 0 0 0 (gEn 114 [.ref 0, .int a, .int b, .int c]) [] (gK 87, I, L, R) (fun r σ => r = some (.int (f1_best a b c)) ∧ gFr σ I L R) := by
  show gW _ _ _ _ _ _ [some (.ref 0), some (.int a), some (.int b), some (.int c), none] _ _ _
  refine w_iload rfl rfl ?_
  refine w_if_ltZ rfl rfl (fun h1 => ?_) (fun h1 => ?_)
  · refine w_pushI rfl ?_
    refine w_iret rfl (Or.inl rfl) ?_
    exact ⟨congrArg (fun v => some (Value.int v)) (show ((-1) : Int32) = f1_best a b c by exact ite_eq_of (fun hc => absurd hc (by omega)) (fun _ => rfl)), rfl, fun x hx => rfl, fun x hx => rfl, fun x hx => rfl⟩
  · refine w_iload rfl rfl ?_
    refine w_pushI rfl ?_
    refine w_aload rfl rfl ?_
    refine w_getR (r := 8) rfl rfl (hR _ fmR_0_1) ?_
    refine w_getIv (x := 0) rfl rfl (hI _ fmI_8_2) ?_
    refine w_ishlv (z := 1) rfl (by decide) ?_
    refine w_icmp_geZ (b := 1) rfl rfl (by decide) (fun h2 => ?_) (fun h2 => ?_)
    · refine w_pushI rfl ?_
      refine w_iret rfl (Or.inl rfl) ?_
      exact ⟨congrArg (fun v => some (Value.int v)) (show ((-1) : Int32) = f1_best a b c by exact ite_eq_of (fun hc => absurd hc (by omega)) (fun _ => rfl)), rfl, fun x hx => rfl, fun x hx => rfl, fun x hx => rfl⟩
    · obtain rfl : a = 0 := i_is (show a.toInt = 0 by omega) (by decide)
      refine w_iload rfl rfl ?_
      refine w_callSi (As := [_]) (le := [some _]) rfl rfl (Nat.le_of_ble_eq_true rfl) (Nat.le_of_ble_eq_true rfl) rfl ?_
      refine w_iload rfl rfl ?_
      refine w_pushI rfl ?_
      refine w_icmp_ltZ (b := 1) rfl rfl (by decide) (fun h4 => ?_) (fun h4 => ?_)
      · refine w_pushI rfl ?_
        refine w_iret rfl (Or.inr ⟨rfl, by decide⟩) ?_
        show gW _ _ _ _ _ _ _ _ _ _
        refine w_if_eq rfl (fun _ => ?_) (fun h => absurd (by decide) h)
        refine w_pushI rfl ?_
        refine w_iret rfl (Or.inl rfl) ?_
        exact ⟨congrArg (fun v => some (Value.int v)) (show ((-1) : Int32) = f1_best (0) b c by have e0 : (0 : Int32).toInt = 0 := rfl; exact ite_eq_of (fun hc => absurd hc (by omega)) (fun _ => rfl)), rfl, fun x hx => rfl, fun x hx => rfl, fun x hx => rfl⟩
      · refine w_iload rfl rfl ?_
        refine w_pushI rfl ?_
        refine w_icmp_gtZ (b := 99) rfl rfl (by decide) (fun h5 => ?_) (fun h5 => ?_)
        · refine w_pushI rfl ?_
          refine w_iret rfl (Or.inr ⟨rfl, by decide⟩) ?_
          show gW _ _ _ _ _ _ _ _ _ _
          refine w_if_eq rfl (fun _ => ?_) (fun h => absurd (by decide) h)
          refine w_pushI rfl ?_
          refine w_iret rfl (Or.inl rfl) ?_
          exact ⟨congrArg (fun v => some (Value.int v)) (show ((-1) : Int32) = f1_best (0) b c by have e0 : (0 : Int32).toInt = 0 := rfl; exact ite_eq_of (fun hc => absurd hc (by omega)) (fun _ => rfl)), rfl, fun x hx => rfl, fun x hx => rfl, fun x hx => rfl⟩
        · refine w_pushI rfl ?_
          refine w_goto rfl ?_
          refine w_iret rfl (Or.inr ⟨rfl, by decide⟩) ?_
          show gW _ _ _ _ _ _ _ _ _ _
          refine w_if_eq rfl (fun h => absurd h (by decide)) (fun _ => ?_)
          refine w_iload rfl rfl ?_
          refine w_pushI rfl ?_
          refine w_icmp_geZ (b := (-1)) rfl rfl (by decide) (fun h6 => ?_) (fun h6 => ?_)
          · refine w_iload rfl rfl ?_
            refine w_topv (z := 0) (by decide) ?_
            refine w_callSi (As := [_]) (le := [some _]) rfl rfl (Nat.le_of_ble_eq_true rfl) (Nat.le_of_ble_eq_true rfl) rfl ?_
            refine w_iload rfl rfl ?_
            refine w_iload rfl rfl ?_
            refine w_pushI rfl ?_
            refine w_iushrv (z := 0) rfl (by decide) ?_
            refine w_pushI rfl ?_
            refine w_iandv (z := 0) rfl (by decide) ?_
            refine w_isubv (z := 0) rfl (by decide) ?_
            refine w_istore rfl rfl ?_
            refine w_iload rfl rfl ?_
            refine w_pushI rfl ?_
            refine w_iandv (z := 0) rfl (by decide) ?_
            refine w_iload rfl rfl ?_
            refine w_pushI rfl ?_
            refine w_iushrv (z := 0) rfl (by decide) ?_
            refine w_pushI rfl ?_
            refine w_iandv (z := 0) rfl (by decide) ?_
            refine w_iaddv (z := 0) rfl (by decide) ?_
            refine w_istore rfl rfl ?_
            refine w_iload rfl rfl ?_
            refine w_iload rfl rfl ?_
            refine w_pushI rfl ?_
            refine w_iushrv (z := 0) rfl (by decide) ?_
            refine w_iaddv (z := 0) rfl (by decide) ?_
            refine w_pushI rfl ?_
            refine w_iandv (z := 0) rfl (by decide) ?_
            refine w_istore rfl rfl ?_
            refine w_iload rfl rfl ?_
            refine w_iload rfl rfl ?_
            refine w_pushI rfl ?_
            refine w_iushrv (z := 0) rfl (by decide) ?_
            refine w_iaddv (z := 0) rfl (by decide) ?_
            refine w_istore rfl rfl ?_
            refine w_iload rfl rfl ?_
            refine w_iload rfl rfl ?_
            refine w_pushI rfl ?_
            refine w_iushrv (z := 0) rfl (by decide) ?_
            refine w_iaddv (z := 0) rfl (by decide) ?_
            refine w_istore rfl rfl ?_
            refine w_iload rfl rfl ?_
            refine w_pushI rfl ?_
            refine w_iandv (z := 0) rfl (by decide) ?_
            refine w_iret rfl (Or.inl rfl) ?_
            show gW _ _ _ _ _ _ _ _ _ _
            refine w_istore rfl rfl ?_
            refine w_iload rfl rfl ?_
            refine w_iload rfl rfl ?_
            refine w_icmp_ltZ (b := 0) rfl rfl (by decide) (fun h7 => ?_) (fun h7 => ?_)
            · obtain rfl : c = (-1) := i_is (show c.toInt = (-1) by omega) (by decide)
              refine w_iload rfl rfl ?_
              refine w_pushI rfl ?_
              refine w_icmp_le rfl (fun _ => ?_) (fun h => absurd (by decide) h)
              refine w_aload rfl rfl ?_
              refine w_getR (r := 18) rfl rfl (hR _ fmR_0_3) ?_
              refine w_iload rfl rfl ?_
              refine w_topv (z := 0) (by decide) ?_
              refine w_iload rfl rfl ?_
              refine w_callVi (As := [_, _]) (le := [some _, some _, some _]) rfl rfl rfl (Nat.le_of_ble_eq_true rfl) (Nat.le_of_ble_eq_true rfl) rfl ?_
              refine w_aload rfl rfl ?_
              refine w_iload rfl rfl ?_
              refine w_putI rfl rfl ?_
              refine w_aload rfl rfl ?_
              refine w_pushI rfl ?_
              refine w_putI rfl rfl ?_
              refine w_aload rfl rfl ?_
              refine w_pushI rfl ?_
              refine w_iload rfl rfl ?_
              refine w_pushI rfl ?_
              refine w_pushI rfl ?_
              refine w_pushI rfl ?_
              refine w_callVi (As := [_, _, _, _, _]) (le := [some _, some _, some _, some _, some _, some _, none, none, none, none]) rfl rfl rfl (Nat.le_of_ble_eq_true rfl) (Nat.le_of_ble_eq_true rfl) rfl ?_
              refine w_iload rfl rfl ?_
              refine w_if_ne rfl (fun h => absurd (by decide) h) (fun _ => ?_)
              refine w_aload rfl rfl ?_
              refine w_iload rfl rfl ?_
              refine w_callVi (As := [_]) (le := [some _, some _]) rfl rfl rfl (Nat.le_of_ble_eq_true rfl) (Nat.le_of_ble_eq_true rfl) rfl ?_
              refine w_iload rfl rfl ?_
              refine w_aload rfl rfl ?_
              refine w_getIv (x := (-1)) rfl rfl (gU_e) ?_
              refine w_icmp_gt rfl (fun _ => ?_) (fun h => absurd (by decide) h)
              refine w_aload rfl rfl ?_
              refine w_iload rfl rfl ?_
              refine w_putI rfl rfl ?_
              refine w_aload rfl rfl ?_
              refine w_getR (r := 19) rfl rfl (hR _ fmR_18_1) ?_
              refine w_pushI rfl ?_
              refine w_aload rfl rfl ?_
              refine w_getR (r := 20) rfl rfl (hR _ fmR_18_2) ?_
              refine w_pushI rfl ?_
              refine w_pushI rfl ?_
              refine w_copyI rfl rfl rfl (by decide) (by decide) (by decide) (by decide) (by decide) (by decide) ?_
              refine w_vret rfl rfl ?_
              show gW _ _ _ _ _ _ _ _ _ _
              refine w_vret rfl rfl ?_
              show gW _ _ _ _ _ _ _ _ _ _
              refine w_vret rfl rfl ?_
              show gW _ _ _ _ _ _ _ _ _ _
              refine w_iload rfl rfl ?_
              refine w_topv (z := (-1)) (by decide) ?_
              refine w_if_ge rfl (fun h => absurd h (by decide)) (fun _ => ?_)
              refine w_aload rfl rfl ?_
              refine w_getR (r := 18) rfl rfl (hR _ fmR_0_3) ?_
              refine w_getIv (x := 0) rfl rfl ((gCopy_n (by decide)).trans (gU_e)) ?_
              refine w_goto rfl ?_
              refine w_iret rfl (Or.inl rfl) ?_
              exact ⟨congrArg (fun v => some (Value.int v)) (show (0 : Int32) = f1_best (0) b ((-1)) by have e0 : (0 : Int32).toInt = 0 := rfl; have e1 : ((-1) : Int32).toInt = (-1) := rfl; exact ite_eq_of (fun _ => ite_eq_of (fun _ => rfl) (fun hc => absurd (by omega) hc)) (fun hc => absurd (by omega) hc)), rfl, fun x hx => (gCopy_o (by omega)).trans ((gU_o (by omega)).trans ((gU_o (by omega)).trans (gU_o (by omega)))), fun x hx => rfl, fun x hx => rfl⟩
            · refine w_pushI rfl ?_
              refine w_iret rfl (Or.inl rfl) ?_
              exact ⟨congrArg (fun v => some (Value.int v)) (show ((-2) : Int32) = f1_best (0) b c by have e0 : (0 : Int32).toInt = 0 := rfl; exact ite_eq_of (fun _ => ite_eq_of (fun hc => absurd hc (by omega)) (fun _ => rfl)) (fun hc => absurd (by omega) hc)), rfl, fun x hx => rfl, fun x hx => rfl, fun x hx => rfl⟩
          · refine w_pushI rfl ?_
            refine w_iret rfl (Or.inl rfl) ?_
            exact ⟨congrArg (fun v => some (Value.int v)) (show ((-1) : Int32) = f1_best (0) b c by have e0 : (0 : Int32).toInt = 0 := rfl; exact ite_eq_of (fun hc => absurd hc (by omega)) (fun _ => rfl)), rfl, fun x hx => rfl, fun x hx => rfl, fun x hx => rfl⟩
set_option maxHeartbeats 40000000 in
set_option maxRecDepth 100000 in
theorem a2_best {X : Nat × (Nat → Int32)} {d : Nat} {I : Nat → Nat → Int32} {L : Nat → Nat → Int64} {R : Nat → Nat → Option Nat} (hI : ∀ q ∈ gFlI, 50 ≤ q.1 → I q.1 q.2.1 = q.2.2) (hL : ∀ q ∈ gFlL, 50 ≤ q.1 → L q.1 q.2.1 = q.2.2) (hR : ∀ q ∈ gFlR, 50 ≤ q.1 → R q.1 q.2.1 = some q.2.2) (a : Int32) (b : Int32) (c : Int32) : gW X (d + 12) 206 0 0 0 (gEn 206 [.ref 50, .int a, .int b, .int c]) [] (gK 87, I, L, R) (fun r _ => r = some (.int (f1_best a b c))) := by
  show gW _ _ _ _ _ _ [some (.ref 50), some (.int a), some (.int b), some (.int c)] _ _ _
  refine w_iload rfl rfl ?_
  refine w_pushI rfl ?_
  refine w_pushI rfl ?_
  refine w_aload rfl rfl ?_
  refine w_getIv (x := 0) rfl rfl (hI _ fmI_50_1 (by decide)) ?_
  refine w_ishlv (z := 1) rfl (by decide) ?_
  refine w_pushI rfl ?_
  refine w_isubv (z := 0) rfl (by decide) ?_
  refine w_callSi (As := [_, _, _]) (le := [some _, some _, some _]) rfl rfl (Nat.le_of_ble_eq_true rfl) (Nat.le_of_ble_eq_true rfl) rfl ?_
  refine w_iload rfl rfl ?_
  refine w_iload rfl rfl ?_
  refine w_icmp_ltZ (b := 0) rfl rfl (by decide) (fun h1 => ?_) (fun h1 => ?_)
  · refine w_pushI rfl ?_
    refine w_iret rfl (Or.inr ⟨rfl, by decide⟩) ?_
    show gW _ _ _ _ _ _ _ _ _ _
    refine w_if_eq rfl (fun _ => ?_) (fun h => absurd (by decide) h)
    refine w_pushI rfl ?_
    refine w_iret rfl (Or.inl rfl) ?_
    exact congrArg (fun v => some (Value.int v)) (show ((-1) : Int32) = f1_best a b c by exact ite_eq_of (fun hc => absurd hc (by omega)) (fun _ => rfl))
  · refine w_iload rfl rfl ?_
    refine w_iload rfl rfl ?_
    refine w_icmp_gtZ (b := 0) rfl rfl (by decide) (fun h2 => ?_) (fun h2 => ?_)
    · refine w_pushI rfl ?_
      refine w_iret rfl (Or.inr ⟨rfl, by decide⟩) ?_
      show gW _ _ _ _ _ _ _ _ _ _
      refine w_if_eq rfl (fun _ => ?_) (fun h => absurd (by decide) h)
      refine w_pushI rfl ?_
      refine w_iret rfl (Or.inl rfl) ?_
      exact congrArg (fun v => some (Value.int v)) (show ((-1) : Int32) = f1_best a b c by exact ite_eq_of (fun hc => absurd hc (by omega)) (fun _ => rfl))
    · obtain rfl : a = 0 := i_is (show a.toInt = 0 by omega) (by decide)
      refine w_pushI rfl ?_
      refine w_goto rfl ?_
      refine w_iret rfl (Or.inr ⟨rfl, by decide⟩) ?_
      show gW _ _ _ _ _ _ _ _ _ _
      refine w_if_eq rfl (fun h => absurd h (by decide)) (fun _ => ?_)
      refine w_iload rfl rfl ?_
      refine w_pushI rfl ?_
      refine w_pushI rfl ?_
      refine w_callSi (As := [_, _, _]) (le := [some _, some _, some _]) rfl rfl (Nat.le_of_ble_eq_true rfl) (Nat.le_of_ble_eq_true rfl) rfl ?_
      refine w_iload rfl rfl ?_
      refine w_iload rfl rfl ?_
      refine w_icmp_ltZ (b := 1) rfl rfl (by decide) (fun h4 => ?_) (fun h4 => ?_)
      · refine w_pushI rfl ?_
        refine w_iret rfl (Or.inr ⟨rfl, by decide⟩) ?_
        show gW _ _ _ _ _ _ _ _ _ _
        refine w_if_eq rfl (fun _ => ?_) (fun h => absurd (by decide) h)
        refine w_pushI rfl ?_
        refine w_iret rfl (Or.inl rfl) ?_
        exact congrArg (fun v => some (Value.int v)) (show ((-1) : Int32) = f1_best (0) b c by have e0 : (0 : Int32).toInt = 0 := rfl; exact ite_eq_of (fun hc => absurd hc (by omega)) (fun _ => rfl))
      · refine w_iload rfl rfl ?_
        refine w_iload rfl rfl ?_
        refine w_icmp_gtZ (b := 99) rfl rfl (by decide) (fun h5 => ?_) (fun h5 => ?_)
        · refine w_pushI rfl ?_
          refine w_iret rfl (Or.inr ⟨rfl, by decide⟩) ?_
          show gW _ _ _ _ _ _ _ _ _ _
          refine w_if_eq rfl (fun _ => ?_) (fun h => absurd (by decide) h)
          refine w_pushI rfl ?_
          refine w_iret rfl (Or.inl rfl) ?_
          exact congrArg (fun v => some (Value.int v)) (show ((-1) : Int32) = f1_best (0) b c by have e0 : (0 : Int32).toInt = 0 := rfl; exact ite_eq_of (fun hc => absurd hc (by omega)) (fun _ => rfl))
        · refine w_pushI rfl ?_
          refine w_goto rfl ?_
          refine w_iret rfl (Or.inr ⟨rfl, by decide⟩) ?_
          show gW _ _ _ _ _ _ _ _ _ _
          refine w_if_eq rfl (fun h => absurd h (by decide)) (fun _ => ?_)
          refine w_iload rfl rfl ?_
          refine w_pushI rfl ?_
          refine w_icmp_geZ (b := (-1)) rfl rfl (by decide) (fun h6 => ?_) (fun h6 => ?_)
          · refine w_iload rfl rfl ?_
            refine w_topv (z := 0) (by decide) ?_
            refine w_callSi (As := [_]) (le := [some _, none, none]) rfl rfl (Nat.le_of_ble_eq_true rfl) (Nat.le_of_ble_eq_true rfl) rfl ?_
            refine w_pushI rfl ?_
            refine w_istore rfl rfl ?_
            refine w_iload rfl rfl ?_
            refine w_istore rfl rfl ?_
            refine w_iload rfl rfl ?_
            refine w_if_eq rfl (fun _ => ?_) (fun h => absurd (by decide) h)
            refine w_iload rfl rfl ?_
            refine w_iret rfl (Or.inl rfl) ?_
            show gW _ _ _ _ _ _ _ _ _ _
            refine w_pushI rfl ?_
            refine w_icmp_le rfl (fun _ => ?_) (fun h => absurd (by decide) h)
            refine w_aload rfl rfl ?_
            refine w_pushI rfl ?_
            refine w_putI rfl rfl ?_
            refine w_aload rfl rfl ?_
            refine w_iload rfl rfl ?_
            refine w_topv (z := 0) (by decide) ?_
            refine w_pushI rfl ?_
            refine w_pushI rfl ?_
            refine w_iload rfl rfl ?_
            refine w_callVi (As := [_, _, _, _]) (le := [some _, some _, some _, some _, some _, none]) rfl rfl rfl (Nat.le_of_ble_eq_true rfl) (Nat.le_of_ble_eq_true rfl) rfl ?_
            refine w_iload rfl rfl ?_
            refine w_iload rfl rfl ?_
            refine w_icmp_ne rfl (fun h => absurd (by decide) h) (fun _ => ?_)
            refine w_aload rfl rfl ?_
            refine w_iload rfl rfl ?_
            refine w_iload rfl rfl ?_
            refine w_callVi (As := [_, _]) (le := [some _, some _, some _, none, none]) rfl rfl rfl (Nat.le_of_ble_eq_true rfl) (Nat.le_of_ble_eq_true rfl) rfl ?_
            refine w_aload rfl rfl ?_
            refine w_callVi (As := []) (le := [some _, none, none]) rfl rfl rfl (Nat.le_of_ble_eq_true rfl) (Nat.le_of_ble_eq_true rfl) rfl ?_
            refine w_aload rfl rfl ?_
            refine w_callVi (As := []) (le := [some _, none, none]) rfl rfl rfl (Nat.le_of_ble_eq_true rfl) (Nat.le_of_ble_eq_true rfl) rfl ?_
            refine w_aload rfl rfl ?_
            refine w_getR (r := 56) rfl rfl (hR _ fmR_50_7 (by decide)) ?_
            refine w_pushI rfl ?_
            refine w_ialdv (j := 0) (x := 0) rfl rfl (by decide) (by unfold vp_in; decide) ((gU_n (by decide)).trans (hI _ fmI_56_0 (by decide))) ?_
            refine w_istore rfl rfl ?_
            refine w_pushI rfl ?_
            refine w_istore rfl rfl ?_
            refine w_iload rfl rfl ?_
            refine w_aload rfl rfl ?_
            refine w_getIv (x := 0) rfl rfl ((gU_n (by decide)).trans (hI _ fmI_50_1 (by decide))) ?_
            refine w_icmp_ge rfl (fun _ => ?_) (fun h => absurd (by decide) h)
            refine w_iload rfl rfl ?_
            refine w_iret rfl (Or.inl rfl) ?_
            show gW _ _ _ _ _ _ _ _ _ _
            refine w_istore rfl rfl ?_
            refine w_pushI rfl ?_
            refine w_istore rfl rfl ?_
            refine w_iload rfl rfl ?_
            refine w_aload rfl rfl ?_
            refine w_getIv (x := 0) rfl rfl ((gU_n (by decide)).trans (hI _ fmI_50_1 (by decide))) ?_
            refine w_icmp_ge rfl (fun _ => ?_) (fun h => absurd (by decide) h)
            refine w_aload rfl rfl ?_
            refine w_aload rfl rfl ?_
            refine w_getR (r := 56) rfl rfl (hR _ fmR_50_7 (by decide)) ?_
            refine w_pushI rfl ?_
            refine w_ialdv (j := 0) (x := 0) rfl rfl (by decide) (by unfold vp_in; decide) ((gU_n (by decide)).trans (hI _ fmI_56_0 (by decide))) ?_
            refine w_iload rfl rfl ?_
            refine w_callSi (As := [_, _]) (le := [some _, some _]) rfl rfl (Nat.le_of_ble_eq_true rfl) (Nat.le_of_ble_eq_true rfl) rfl ?_
            refine w_iload rfl rfl ?_
            refine w_if_ne rfl (fun h => absurd (by decide) h) (fun _ => ?_)
            refine w_pushI rfl ?_
            refine w_goto rfl ?_
            refine w_iret rfl (Or.inl rfl) ?_
            show gW _ _ _ _ _ _ _ _ _ _
            refine w_putI rfl rfl ?_
            refine w_aload rfl rfl ?_
            refine w_pushI rfl ?_
            refine w_putI rfl rfl ?_
            refine w_aload rfl rfl ?_
            refine w_pushI rfl ?_
            refine w_putI rfl rfl ?_
            refine w_aload rfl rfl ?_
            refine w_pushI rfl ?_
            refine w_putI rfl rfl ?_
            refine w_vret rfl rfl ?_
            show gW _ _ _ _ _ _ _ _ _ _
            refine w_aload rfl rfl ?_
            refine w_pushI rfl ?_
            refine w_putI rfl rfl ?_
            refine w_pushI rfl ?_
            refine w_istore rfl rfl ?_
            refine w_iload rfl rfl ?_
            refine w_iload rfl rfl ?_
            refine w_icmp_ge rfl (fun _ => ?_) (fun h => absurd (by decide) h)
            refine w_aload rfl rfl ?_
            refine w_getIv (x := 0) rfl rfl ((gU_n (by decide)).trans (gU_e)) ?_
            refine w_aload rfl rfl ?_
            refine w_getIv (x := (-1)) rfl rfl ((gU_n (by decide)).trans ((gU_n (by decide)).trans ((gU_n (by decide)).trans ((gU_n (by decide)).trans ((gU_n (by decide)).trans (gU_e)))))) ?_
            refine w_icmp_gt rfl (fun _ => ?_) (fun h => absurd (by decide) h)
            refine w_aload rfl rfl ?_
            refine w_aload rfl rfl ?_
            refine w_getIv (x := 0) rfl rfl ((gU_n (by decide)).trans (gU_e)) ?_
            refine w_putI rfl rfl ?_
            refine w_pushI rfl ?_
            refine w_istore rfl rfl ?_
            refine w_iload rfl rfl ?_
            refine w_iload rfl rfl ?_
            refine w_icmp_ge rfl (fun _ => ?_) (fun h => absurd (by decide) h)
            refine w_vret rfl rfl ?_
            show gW _ _ _ _ _ _ _ _ _ _
            refine w_vret rfl rfl ?_
            show gW _ _ _ _ _ _ _ _ _ _
            refine w_iload rfl rfl ?_
            refine w_if_geZ rfl rfl (fun h7 => ?_) (fun h7 => ?_)
            · refine w_iload rfl rfl ?_
              refine w_iload rfl rfl ?_
              refine w_topv (z := 0) (by decide) ?_
              refine w_callSi (As := [_]) (le := [some _, none, none]) rfl rfl (Nat.le_of_ble_eq_true rfl) (Nat.le_of_ble_eq_true rfl) rfl ?_
              refine w_pushI rfl ?_
              refine w_istore rfl rfl ?_
              refine w_iload rfl rfl ?_
              refine w_istore rfl rfl ?_
              refine w_iload rfl rfl ?_
              refine w_if_eq rfl (fun _ => ?_) (fun h => absurd (by decide) h)
              refine w_iload rfl rfl ?_
              refine w_iret rfl (Or.inl rfl) ?_
              show gW _ _ _ _ _ _ _ _ _ _
              refine w_icmp_geZ (b := 0) rfl rfl (by decide) (fun h8 => ?_) (fun h8 => by exfalso; omega)
              refine w_pushI rfl ?_
              refine w_iret rfl (Or.inl rfl) ?_
              exact congrArg (fun v => some (Value.int v)) (show ((-2) : Int32) = f1_best (0) b c by have e0 : (0 : Int32).toInt = 0 := rfl; exact ite_eq_of (fun _ => ite_eq_of (fun hc => absurd hc (by omega)) (fun _ => rfl)) (fun hc => absurd (by omega) hc))
            · obtain rfl : c = (-1) := i_is (show c.toInt = (-1) by omega) (by decide)
              refine w_aload rfl rfl ?_
              refine w_getIv (x := 0) rfl rfl (gU_e) ?_
              refine w_goto rfl ?_
              refine w_iret rfl (Or.inl rfl) ?_
              exact congrArg (fun v => some (Value.int v)) (show (0 : Int32) = f1_best (0) b ((-1)) by have e0 : (0 : Int32).toInt = 0 := rfl; have e1 : ((-1) : Int32).toInt = (-1) := rfl; exact ite_eq_of (fun _ => ite_eq_of (fun _ => rfl) (fun hc => absurd (by omega) hc)) (fun hc => absurd (by omega) hc))
          · refine w_pushI rfl ?_
            refine w_iret rfl (Or.inl rfl) ?_
            exact congrArg (fun v => some (Value.int v)) (show ((-1) : Int32) = f1_best (0) b c by have e0 : (0 : Int32).toInt = 0 := rfl; exact ite_eq_of (fun hc => absurd hc (by omega)) (fun _ => rfl))
set_option maxHeartbeats 40000000 in
set_option maxRecDepth 100000 in
theorem a1_giveUp {X : Nat × (Nat → Int32)} {d : Nat} {I : Nat → Nat → Int32} {L : Nat → Nat → Int64} {R : Nat → Nat → Option Nat} (hI : ∀ q ∈ gFlI, I q.1 q.2.1 = q.2.2) (hL : ∀ q ∈ gFlL, L q.1 q.2.1 = q.2.2) (hR : ∀ q ∈ gFlR, R q.1 q.2.1 = some q.2.2) (a : Int32) (b : Int32) (c : Int32) : gW X (d + 12) 115 0 0 0 (gEn 115 [.ref 0, .int a, .int b, .int c]) [] (gK 87, I, L, R) (fun r σ => r = some (.int (f1_giveUp a b c)) ∧ gFr σ I L R) := by
  show gW _ _ _ _ _ _ [some (.ref 0), some (.int a), some (.int b), some (.int c), none, none, none, none, none, none] _ _ _
  refine w_iload rfl rfl ?_
  refine w_callSi (As := [_]) (le := [some _]) rfl rfl (Nat.le_of_ble_eq_true rfl) (Nat.le_of_ble_eq_true rfl) rfl ?_
  refine w_iload rfl rfl ?_
  refine w_if_ltZ rfl rfl (fun h1 => ?_) (fun h1 => ?_)
  · refine w_pushI rfl ?_
    refine w_iret rfl (Or.inr ⟨rfl, by decide⟩) ?_
    show gW _ _ _ _ _ _ _ _ _ _
    refine w_if_eq rfl (fun _ => ?_) (fun h => absurd (by decide) h)
    refine w_pushI rfl ?_
    refine w_iret rfl (Or.inl rfl) ?_
    exact ⟨congrArg (fun v => some (Value.int v)) (show ((-1) : Int32) = f1_giveUp a b c by exact ite_eq_of (fun hc => absurd hc (by omega)) (fun _ => rfl)), rfl, fun x hx => rfl, fun x hx => rfl, fun x hx => rfl⟩
  · refine w_iload rfl rfl ?_
    refine w_pushI rfl ?_
    refine w_icmp_geZ (b := 6) rfl rfl (by decide) (fun h2 => ?_) (fun h2 => ?_)
    · refine w_pushI rfl ?_
      refine w_iret rfl (Or.inr ⟨rfl, by decide⟩) ?_
      show gW _ _ _ _ _ _ _ _ _ _
      refine w_if_eq rfl (fun _ => ?_) (fun h => absurd (by decide) h)
      refine w_pushI rfl ?_
      refine w_iret rfl (Or.inl rfl) ?_
      exact ⟨congrArg (fun v => some (Value.int v)) (show ((-1) : Int32) = f1_giveUp a b c by exact ite_eq_of (fun hc => absurd hc (by omega)) (fun _ => rfl)), rfl, fun x hx => rfl, fun x hx => rfl, fun x hx => rfl⟩
    · refine w_pushI rfl ?_
      refine w_goto rfl ?_
      refine w_iret rfl (Or.inr ⟨rfl, by decide⟩) ?_
      show gW _ _ _ _ _ _ _ _ _ _
      refine w_if_eq rfl (fun h => absurd h (by decide)) (fun _ => ?_)
      refine w_iload rfl rfl ?_
      refine w_if_ltZ rfl rfl (fun h3 => ?_) (fun h3 => ?_)
      · refine w_pushI rfl ?_
        refine w_iret rfl (Or.inl rfl) ?_
        exact ⟨congrArg (fun v => some (Value.int v)) (show ((-1) : Int32) = f1_giveUp a b c by exact ite_eq_of (fun hc => absurd hc (by omega)) (fun _ => rfl)), rfl, fun x hx => rfl, fun x hx => rfl, fun x hx => rfl⟩
      · refine w_iload rfl rfl ?_
        refine w_pushI rfl ?_
        refine w_icmp_geZ (b := 1000000) rfl rfl (by decide) (fun h4 => ?_) (fun h4 => ?_)
        · refine w_pushI rfl ?_
          refine w_iret rfl (Or.inl rfl) ?_
          exact ⟨congrArg (fun v => some (Value.int v)) (show ((-1) : Int32) = f1_giveUp a b c by exact ite_eq_of (fun hc => absurd hc (by omega)) (fun _ => rfl)), rfl, fun x hx => rfl, fun x hx => rfl, fun x hx => rfl⟩
        · refine w_iload rfl rfl ?_
          refine w_callSi (As := [_]) (le := [some _]) rfl rfl (Nat.le_of_ble_eq_true rfl) (Nat.le_of_ble_eq_true rfl) rfl ?_
          refine w_iload rfl rfl ?_
          refine w_if_eqZ rfl rfl (fun h5 => ?_) (fun h5 => ?_)
          · obtain rfl : c = 0 := i_is (show c.toInt = 0 by omega) (by decide)
            refine w_pushI rfl ?_
            refine w_goto rfl ?_
            refine w_iret rfl (Or.inr ⟨rfl, by decide⟩) ?_
            show gW _ _ _ _ _ _ _ _ _ _
            refine w_if_ne rfl (fun _ => ?_) (fun h => absurd h (by decide))
            refine w_aload rfl rfl ?_
            refine w_getR (r := 10) rfl rfl (hR _ fmR_0_2) ?_
            refine w_aload rfl rfl ?_
            refine w_getR (r := 37) rfl rfl (hR _ fmR_0_11) ?_
            refine w_iload rfl rfl ?_
            rcases (show a.toInt = 0 ∨ a.toInt = 1 ∨ a.toInt = 2 ∨ a.toInt = 3 ∨ a.toInt = 4 ∨ a.toInt = 5 by omega) with hs7 | hs7 | hs7 | hs7 | hs7 | hs7
            · obtain rfl : a = 0 := i_is hs7 (by decide)
              refine w_aaldv (j := 0) (r := 38) rfl rfl (by decide) (by unfold vp_in; decide) (hR _ fmR_37_0) ?_
              refine w_callVi (As := [_]) (le := [some _, some _, none, none, none]) rfl rfl rfl (Nat.le_of_ble_eq_true rfl) (Nat.le_of_ble_eq_true rfl) rfl ?_
              refine w_aload rfl rfl ?_
              refine w_callVi (As := []) (le := [some _]) rfl rfl rfl (Nat.le_of_ble_eq_true rfl) (Nat.le_of_ble_eq_true rfl) rfl ?_
              refine w_aload rfl rfl ?_
              refine w_getIv (x := 0) rfl rfl (hI _ fmI_38_0) ?_
              refine w_if_ne rfl (fun h => absurd (by decide) h) (fun _ => ?_)
              refine w_pushI rfl ?_
              refine w_iret rfl (Or.inl rfl) ?_
              show gW _ _ _ _ _ _ _ _ _ _
              refine w_istore rfl rfl ?_
              refine w_iload rfl rfl ?_
              refine w_if_ge rfl (fun h => absurd h (by decide)) (fun _ => ?_)
              refine w_iload rfl rfl ?_
              refine w_iret rfl (Or.inl rfl) ?_
              show gW _ _ _ _ _ _ _ _ _ _
              refine w_istore rfl rfl ?_
              refine w_iload rfl rfl ?_
              refine w_if_ge rfl (fun h => absurd h (by decide)) (fun _ => ?_)
              refine w_iload rfl rfl ?_
              refine w_iret rfl (Or.inl rfl) ?_
              exact ⟨congrArg (fun v => some (Value.int v)) (show ((-11) : Int32) = f1_giveUp (0) b (0) by have e0 : (0 : Int32).toInt = 0 := rfl; have e1 : (0 : Int32).toInt = 0 := rfl; exact ite_eq_of (fun _ => rfl) (fun hc => absurd (by omega) hc)), rfl, fun x hx => rfl, fun x hx => rfl, fun x hx => rfl⟩
            · obtain rfl : a = 1 := i_is hs7 (by decide)
              refine w_aaldv (j := 1) (r := 40) rfl rfl (by decide) (by unfold vp_in; decide) (hR _ fmR_37_1) ?_
              refine w_callVi (As := [_]) (le := [some _, some _, none, none, none]) rfl rfl rfl (Nat.le_of_ble_eq_true rfl) (Nat.le_of_ble_eq_true rfl) rfl ?_
              refine w_aload rfl rfl ?_
              refine w_callVi (As := []) (le := [some _]) rfl rfl rfl (Nat.le_of_ble_eq_true rfl) (Nat.le_of_ble_eq_true rfl) rfl ?_
              refine w_aload rfl rfl ?_
              refine w_getIv (x := 0) rfl rfl (hI _ fmI_40_0) ?_
              refine w_if_ne rfl (fun h => absurd (by decide) h) (fun _ => ?_)
              refine w_pushI rfl ?_
              refine w_iret rfl (Or.inl rfl) ?_
              show gW _ _ _ _ _ _ _ _ _ _
              refine w_istore rfl rfl ?_
              refine w_iload rfl rfl ?_
              refine w_if_ge rfl (fun h => absurd h (by decide)) (fun _ => ?_)
              refine w_iload rfl rfl ?_
              refine w_iret rfl (Or.inl rfl) ?_
              show gW _ _ _ _ _ _ _ _ _ _
              refine w_istore rfl rfl ?_
              refine w_iload rfl rfl ?_
              refine w_if_ge rfl (fun h => absurd h (by decide)) (fun _ => ?_)
              refine w_iload rfl rfl ?_
              refine w_iret rfl (Or.inl rfl) ?_
              exact ⟨congrArg (fun v => some (Value.int v)) (show ((-11) : Int32) = f1_giveUp (1) b (0) by have e0 : (1 : Int32).toInt = 1 := rfl; have e1 : (0 : Int32).toInt = 0 := rfl; exact ite_eq_of (fun _ => rfl) (fun hc => absurd (by omega) hc)), rfl, fun x hx => rfl, fun x hx => rfl, fun x hx => rfl⟩
            · obtain rfl : a = 2 := i_is hs7 (by decide)
              refine w_aaldv (j := 2) (r := 42) rfl rfl (by decide) (by unfold vp_in; decide) (hR _ fmR_37_2) ?_
              refine w_callVi (As := [_]) (le := [some _, some _, none, none, none]) rfl rfl rfl (Nat.le_of_ble_eq_true rfl) (Nat.le_of_ble_eq_true rfl) rfl ?_
              refine w_aload rfl rfl ?_
              refine w_callVi (As := []) (le := [some _]) rfl rfl rfl (Nat.le_of_ble_eq_true rfl) (Nat.le_of_ble_eq_true rfl) rfl ?_
              refine w_aload rfl rfl ?_
              refine w_getIv (x := 0) rfl rfl (hI _ fmI_42_0) ?_
              refine w_if_ne rfl (fun h => absurd (by decide) h) (fun _ => ?_)
              refine w_pushI rfl ?_
              refine w_iret rfl (Or.inl rfl) ?_
              show gW _ _ _ _ _ _ _ _ _ _
              refine w_istore rfl rfl ?_
              refine w_iload rfl rfl ?_
              refine w_if_ge rfl (fun h => absurd h (by decide)) (fun _ => ?_)
              refine w_iload rfl rfl ?_
              refine w_iret rfl (Or.inl rfl) ?_
              show gW _ _ _ _ _ _ _ _ _ _
              refine w_istore rfl rfl ?_
              refine w_iload rfl rfl ?_
              refine w_if_ge rfl (fun h => absurd h (by decide)) (fun _ => ?_)
              refine w_iload rfl rfl ?_
              refine w_iret rfl (Or.inl rfl) ?_
              exact ⟨congrArg (fun v => some (Value.int v)) (show ((-11) : Int32) = f1_giveUp (2) b (0) by have e0 : (2 : Int32).toInt = 2 := rfl; have e1 : (0 : Int32).toInt = 0 := rfl; exact ite_eq_of (fun _ => rfl) (fun hc => absurd (by omega) hc)), rfl, fun x hx => rfl, fun x hx => rfl, fun x hx => rfl⟩
            · obtain rfl : a = 3 := i_is hs7 (by decide)
              refine w_aaldv (j := 3) (r := 44) rfl rfl (by decide) (by unfold vp_in; decide) (hR _ fmR_37_3) ?_
              refine w_callVi (As := [_]) (le := [some _, some _, none, none, none]) rfl rfl rfl (Nat.le_of_ble_eq_true rfl) (Nat.le_of_ble_eq_true rfl) rfl ?_
              refine w_aload rfl rfl ?_
              refine w_callVi (As := []) (le := [some _]) rfl rfl rfl (Nat.le_of_ble_eq_true rfl) (Nat.le_of_ble_eq_true rfl) rfl ?_
              refine w_aload rfl rfl ?_
              refine w_getIv (x := 0) rfl rfl (hI _ fmI_44_0) ?_
              refine w_if_ne rfl (fun h => absurd (by decide) h) (fun _ => ?_)
              refine w_pushI rfl ?_
              refine w_iret rfl (Or.inl rfl) ?_
              show gW _ _ _ _ _ _ _ _ _ _
              refine w_istore rfl rfl ?_
              refine w_iload rfl rfl ?_
              refine w_if_ge rfl (fun h => absurd h (by decide)) (fun _ => ?_)
              refine w_iload rfl rfl ?_
              refine w_iret rfl (Or.inl rfl) ?_
              show gW _ _ _ _ _ _ _ _ _ _
              refine w_istore rfl rfl ?_
              refine w_iload rfl rfl ?_
              refine w_if_ge rfl (fun h => absurd h (by decide)) (fun _ => ?_)
              refine w_iload rfl rfl ?_
              refine w_iret rfl (Or.inl rfl) ?_
              exact ⟨congrArg (fun v => some (Value.int v)) (show ((-11) : Int32) = f1_giveUp (3) b (0) by have e0 : (3 : Int32).toInt = 3 := rfl; have e1 : (0 : Int32).toInt = 0 := rfl; exact ite_eq_of (fun _ => rfl) (fun hc => absurd (by omega) hc)), rfl, fun x hx => rfl, fun x hx => rfl, fun x hx => rfl⟩
            · obtain rfl : a = 4 := i_is hs7 (by decide)
              refine w_aaldv (j := 4) (r := 46) rfl rfl (by decide) (by unfold vp_in; decide) (hR _ fmR_37_4) ?_
              refine w_callVi (As := [_]) (le := [some _, some _, none, none, none]) rfl rfl rfl (Nat.le_of_ble_eq_true rfl) (Nat.le_of_ble_eq_true rfl) rfl ?_
              refine w_aload rfl rfl ?_
              refine w_callVi (As := []) (le := [some _]) rfl rfl rfl (Nat.le_of_ble_eq_true rfl) (Nat.le_of_ble_eq_true rfl) rfl ?_
              refine w_aload rfl rfl ?_
              refine w_getIv (x := 0) rfl rfl (hI _ fmI_46_0) ?_
              refine w_if_ne rfl (fun h => absurd (by decide) h) (fun _ => ?_)
              refine w_pushI rfl ?_
              refine w_iret rfl (Or.inl rfl) ?_
              show gW _ _ _ _ _ _ _ _ _ _
              refine w_istore rfl rfl ?_
              refine w_iload rfl rfl ?_
              refine w_if_ge rfl (fun h => absurd h (by decide)) (fun _ => ?_)
              refine w_iload rfl rfl ?_
              refine w_iret rfl (Or.inl rfl) ?_
              show gW _ _ _ _ _ _ _ _ _ _
              refine w_istore rfl rfl ?_
              refine w_iload rfl rfl ?_
              refine w_if_ge rfl (fun h => absurd h (by decide)) (fun _ => ?_)
              refine w_iload rfl rfl ?_
              refine w_iret rfl (Or.inl rfl) ?_
              exact ⟨congrArg (fun v => some (Value.int v)) (show ((-11) : Int32) = f1_giveUp (4) b (0) by have e0 : (4 : Int32).toInt = 4 := rfl; have e1 : (0 : Int32).toInt = 0 := rfl; exact ite_eq_of (fun _ => rfl) (fun hc => absurd (by omega) hc)), rfl, fun x hx => rfl, fun x hx => rfl, fun x hx => rfl⟩
            · obtain rfl : a = 5 := i_is hs7 (by decide)
              refine w_aaldv (j := 5) (r := 48) rfl rfl (by decide) (by unfold vp_in; decide) (hR _ fmR_37_5) ?_
              refine w_callVi (As := [_]) (le := [some _, some _, none, none, none]) rfl rfl rfl (Nat.le_of_ble_eq_true rfl) (Nat.le_of_ble_eq_true rfl) rfl ?_
              refine w_aload rfl rfl ?_
              refine w_callVi (As := []) (le := [some _]) rfl rfl rfl (Nat.le_of_ble_eq_true rfl) (Nat.le_of_ble_eq_true rfl) rfl ?_
              refine w_aload rfl rfl ?_
              refine w_getIv (x := 0) rfl rfl (hI _ fmI_48_0) ?_
              refine w_if_ne rfl (fun h => absurd (by decide) h) (fun _ => ?_)
              refine w_pushI rfl ?_
              refine w_iret rfl (Or.inl rfl) ?_
              show gW _ _ _ _ _ _ _ _ _ _
              refine w_istore rfl rfl ?_
              refine w_iload rfl rfl ?_
              refine w_if_ge rfl (fun h => absurd h (by decide)) (fun _ => ?_)
              refine w_iload rfl rfl ?_
              refine w_iret rfl (Or.inl rfl) ?_
              show gW _ _ _ _ _ _ _ _ _ _
              refine w_istore rfl rfl ?_
              refine w_iload rfl rfl ?_
              refine w_if_ge rfl (fun h => absurd h (by decide)) (fun _ => ?_)
              refine w_iload rfl rfl ?_
              refine w_iret rfl (Or.inl rfl) ?_
              exact ⟨congrArg (fun v => some (Value.int v)) (show ((-11) : Int32) = f1_giveUp (5) b (0) by have e0 : (5 : Int32).toInt = 5 := rfl; have e1 : (0 : Int32).toInt = 0 := rfl; exact ite_eq_of (fun _ => rfl) (fun hc => absurd (by omega) hc)), rfl, fun x hx => rfl, fun x hx => rfl, fun x hx => rfl⟩
          · refine w_iload rfl rfl ?_
            refine w_pushI rfl ?_
            refine w_icmp_neZ (b := 1) rfl rfl (by decide) (fun h6 => ?_) (fun h6 => ?_)
            · refine w_pushI rfl ?_
              refine w_iret rfl (Or.inr ⟨rfl, by decide⟩) ?_
              show gW _ _ _ _ _ _ _ _ _ _
              refine w_if_ne rfl (fun h => absurd (by decide) h) (fun _ => ?_)
              refine w_pushI rfl ?_
              refine w_iret rfl (Or.inl rfl) ?_
              exact ⟨congrArg (fun v => some (Value.int v)) (show ((-1) : Int32) = f1_giveUp a b c by exact ite_eq_of (fun hc => (by exfalso; omega)) (fun hc => rfl)), rfl, fun x hx => rfl, fun x hx => rfl, fun x hx => rfl⟩
            · obtain rfl : c = 1 := i_is (show c.toInt = 1 by omega) (by decide)
              refine w_pushI rfl ?_
              refine w_goto rfl ?_
              refine w_iret rfl (Or.inr ⟨rfl, by decide⟩) ?_
              show gW _ _ _ _ _ _ _ _ _ _
              refine w_if_ne rfl (fun _ => ?_) (fun h => absurd h (by decide))
              refine w_aload rfl rfl ?_
              refine w_getR (r := 10) rfl rfl (hR _ fmR_0_2) ?_
              refine w_aload rfl rfl ?_
              refine w_getR (r := 37) rfl rfl (hR _ fmR_0_11) ?_
              refine w_iload rfl rfl ?_
              rcases (show a.toInt = 0 ∨ a.toInt = 1 ∨ a.toInt = 2 ∨ a.toInt = 3 ∨ a.toInt = 4 ∨ a.toInt = 5 by omega) with hs8 | hs8 | hs8 | hs8 | hs8 | hs8
              · obtain rfl : a = 0 := i_is hs8 (by decide)
                refine w_aaldv (j := 0) (r := 38) rfl rfl (by decide) (by unfold vp_in; decide) (hR _ fmR_37_0) ?_
                refine w_callVi (As := [_]) (le := [some _, some _, none, none, none]) rfl rfl rfl (Nat.le_of_ble_eq_true rfl) (Nat.le_of_ble_eq_true rfl) rfl ?_
                refine w_aload rfl rfl ?_
                refine w_callVi (As := []) (le := [some _]) rfl rfl rfl (Nat.le_of_ble_eq_true rfl) (Nat.le_of_ble_eq_true rfl) rfl ?_
                refine w_aload rfl rfl ?_
                refine w_getIv (x := 0) rfl rfl (hI _ fmI_38_0) ?_
                refine w_if_ne rfl (fun h => absurd (by decide) h) (fun _ => ?_)
                refine w_pushI rfl ?_
                refine w_iret rfl (Or.inl rfl) ?_
                show gW _ _ _ _ _ _ _ _ _ _
                refine w_istore rfl rfl ?_
                refine w_iload rfl rfl ?_
                refine w_if_ge rfl (fun h => absurd h (by decide)) (fun _ => ?_)
                refine w_iload rfl rfl ?_
                refine w_iret rfl (Or.inl rfl) ?_
                show gW _ _ _ _ _ _ _ _ _ _
                refine w_istore rfl rfl ?_
                refine w_iload rfl rfl ?_
                refine w_if_ge rfl (fun h => absurd h (by decide)) (fun _ => ?_)
                refine w_iload rfl rfl ?_
                refine w_iret rfl (Or.inl rfl) ?_
                exact ⟨congrArg (fun v => some (Value.int v)) (show ((-11) : Int32) = f1_giveUp (0) b (1) by have e0 : (0 : Int32).toInt = 0 := rfl; have e1 : (1 : Int32).toInt = 1 := rfl; exact ite_eq_of (fun _ => rfl) (fun hc => absurd (by omega) hc)), rfl, fun x hx => rfl, fun x hx => rfl, fun x hx => rfl⟩
              · obtain rfl : a = 1 := i_is hs8 (by decide)
                refine w_aaldv (j := 1) (r := 40) rfl rfl (by decide) (by unfold vp_in; decide) (hR _ fmR_37_1) ?_
                refine w_callVi (As := [_]) (le := [some _, some _, none, none, none]) rfl rfl rfl (Nat.le_of_ble_eq_true rfl) (Nat.le_of_ble_eq_true rfl) rfl ?_
                refine w_aload rfl rfl ?_
                refine w_callVi (As := []) (le := [some _]) rfl rfl rfl (Nat.le_of_ble_eq_true rfl) (Nat.le_of_ble_eq_true rfl) rfl ?_
                refine w_aload rfl rfl ?_
                refine w_getIv (x := 0) rfl rfl (hI _ fmI_40_0) ?_
                refine w_if_ne rfl (fun h => absurd (by decide) h) (fun _ => ?_)
                refine w_pushI rfl ?_
                refine w_iret rfl (Or.inl rfl) ?_
                show gW _ _ _ _ _ _ _ _ _ _
                refine w_istore rfl rfl ?_
                refine w_iload rfl rfl ?_
                refine w_if_ge rfl (fun h => absurd h (by decide)) (fun _ => ?_)
                refine w_iload rfl rfl ?_
                refine w_iret rfl (Or.inl rfl) ?_
                show gW _ _ _ _ _ _ _ _ _ _
                refine w_istore rfl rfl ?_
                refine w_iload rfl rfl ?_
                refine w_if_ge rfl (fun h => absurd h (by decide)) (fun _ => ?_)
                refine w_iload rfl rfl ?_
                refine w_iret rfl (Or.inl rfl) ?_
                exact ⟨congrArg (fun v => some (Value.int v)) (show ((-11) : Int32) = f1_giveUp (1) b (1) by have e0 : (1 : Int32).toInt = 1 := rfl; have e1 : (1 : Int32).toInt = 1 := rfl; exact ite_eq_of (fun _ => rfl) (fun hc => absurd (by omega) hc)), rfl, fun x hx => rfl, fun x hx => rfl, fun x hx => rfl⟩
              · obtain rfl : a = 2 := i_is hs8 (by decide)
                refine w_aaldv (j := 2) (r := 42) rfl rfl (by decide) (by unfold vp_in; decide) (hR _ fmR_37_2) ?_
                refine w_callVi (As := [_]) (le := [some _, some _, none, none, none]) rfl rfl rfl (Nat.le_of_ble_eq_true rfl) (Nat.le_of_ble_eq_true rfl) rfl ?_
                refine w_aload rfl rfl ?_
                refine w_callVi (As := []) (le := [some _]) rfl rfl rfl (Nat.le_of_ble_eq_true rfl) (Nat.le_of_ble_eq_true rfl) rfl ?_
                refine w_aload rfl rfl ?_
                refine w_getIv (x := 0) rfl rfl (hI _ fmI_42_0) ?_
                refine w_if_ne rfl (fun h => absurd (by decide) h) (fun _ => ?_)
                refine w_pushI rfl ?_
                refine w_iret rfl (Or.inl rfl) ?_
                show gW _ _ _ _ _ _ _ _ _ _
                refine w_istore rfl rfl ?_
                refine w_iload rfl rfl ?_
                refine w_if_ge rfl (fun h => absurd h (by decide)) (fun _ => ?_)
                refine w_iload rfl rfl ?_
                refine w_iret rfl (Or.inl rfl) ?_
                show gW _ _ _ _ _ _ _ _ _ _
                refine w_istore rfl rfl ?_
                refine w_iload rfl rfl ?_
                refine w_if_ge rfl (fun h => absurd h (by decide)) (fun _ => ?_)
                refine w_iload rfl rfl ?_
                refine w_iret rfl (Or.inl rfl) ?_
                exact ⟨congrArg (fun v => some (Value.int v)) (show ((-11) : Int32) = f1_giveUp (2) b (1) by have e0 : (2 : Int32).toInt = 2 := rfl; have e1 : (1 : Int32).toInt = 1 := rfl; exact ite_eq_of (fun _ => rfl) (fun hc => absurd (by omega) hc)), rfl, fun x hx => rfl, fun x hx => rfl, fun x hx => rfl⟩
              · obtain rfl : a = 3 := i_is hs8 (by decide)
                refine w_aaldv (j := 3) (r := 44) rfl rfl (by decide) (by unfold vp_in; decide) (hR _ fmR_37_3) ?_
                refine w_callVi (As := [_]) (le := [some _, some _, none, none, none]) rfl rfl rfl (Nat.le_of_ble_eq_true rfl) (Nat.le_of_ble_eq_true rfl) rfl ?_
                refine w_aload rfl rfl ?_
                refine w_callVi (As := []) (le := [some _]) rfl rfl rfl (Nat.le_of_ble_eq_true rfl) (Nat.le_of_ble_eq_true rfl) rfl ?_
                refine w_aload rfl rfl ?_
                refine w_getIv (x := 0) rfl rfl (hI _ fmI_44_0) ?_
                refine w_if_ne rfl (fun h => absurd (by decide) h) (fun _ => ?_)
                refine w_pushI rfl ?_
                refine w_iret rfl (Or.inl rfl) ?_
                show gW _ _ _ _ _ _ _ _ _ _
                refine w_istore rfl rfl ?_
                refine w_iload rfl rfl ?_
                refine w_if_ge rfl (fun h => absurd h (by decide)) (fun _ => ?_)
                refine w_iload rfl rfl ?_
                refine w_iret rfl (Or.inl rfl) ?_
                show gW _ _ _ _ _ _ _ _ _ _
                refine w_istore rfl rfl ?_
                refine w_iload rfl rfl ?_
                refine w_if_ge rfl (fun h => absurd h (by decide)) (fun _ => ?_)
                refine w_iload rfl rfl ?_
                refine w_iret rfl (Or.inl rfl) ?_
                exact ⟨congrArg (fun v => some (Value.int v)) (show ((-11) : Int32) = f1_giveUp (3) b (1) by have e0 : (3 : Int32).toInt = 3 := rfl; have e1 : (1 : Int32).toInt = 1 := rfl; exact ite_eq_of (fun _ => rfl) (fun hc => absurd (by omega) hc)), rfl, fun x hx => rfl, fun x hx => rfl, fun x hx => rfl⟩
              · obtain rfl : a = 4 := i_is hs8 (by decide)
                refine w_aaldv (j := 4) (r := 46) rfl rfl (by decide) (by unfold vp_in; decide) (hR _ fmR_37_4) ?_
                refine w_callVi (As := [_]) (le := [some _, some _, none, none, none]) rfl rfl rfl (Nat.le_of_ble_eq_true rfl) (Nat.le_of_ble_eq_true rfl) rfl ?_
                refine w_aload rfl rfl ?_
                refine w_callVi (As := []) (le := [some _]) rfl rfl rfl (Nat.le_of_ble_eq_true rfl) (Nat.le_of_ble_eq_true rfl) rfl ?_
                refine w_aload rfl rfl ?_
                refine w_getIv (x := 0) rfl rfl (hI _ fmI_46_0) ?_
                refine w_if_ne rfl (fun h => absurd (by decide) h) (fun _ => ?_)
                refine w_pushI rfl ?_
                refine w_iret rfl (Or.inl rfl) ?_
                show gW _ _ _ _ _ _ _ _ _ _
                refine w_istore rfl rfl ?_
                refine w_iload rfl rfl ?_
                refine w_if_ge rfl (fun h => absurd h (by decide)) (fun _ => ?_)
                refine w_iload rfl rfl ?_
                refine w_iret rfl (Or.inl rfl) ?_
                show gW _ _ _ _ _ _ _ _ _ _
                refine w_istore rfl rfl ?_
                refine w_iload rfl rfl ?_
                refine w_if_ge rfl (fun h => absurd h (by decide)) (fun _ => ?_)
                refine w_iload rfl rfl ?_
                refine w_iret rfl (Or.inl rfl) ?_
                exact ⟨congrArg (fun v => some (Value.int v)) (show ((-11) : Int32) = f1_giveUp (4) b (1) by have e0 : (4 : Int32).toInt = 4 := rfl; have e1 : (1 : Int32).toInt = 1 := rfl; exact ite_eq_of (fun _ => rfl) (fun hc => absurd (by omega) hc)), rfl, fun x hx => rfl, fun x hx => rfl, fun x hx => rfl⟩
              · obtain rfl : a = 5 := i_is hs8 (by decide)
                refine w_aaldv (j := 5) (r := 48) rfl rfl (by decide) (by unfold vp_in; decide) (hR _ fmR_37_5) ?_
                refine w_callVi (As := [_]) (le := [some _, some _, none, none, none]) rfl rfl rfl (Nat.le_of_ble_eq_true rfl) (Nat.le_of_ble_eq_true rfl) rfl ?_
                refine w_aload rfl rfl ?_
                refine w_callVi (As := []) (le := [some _]) rfl rfl rfl (Nat.le_of_ble_eq_true rfl) (Nat.le_of_ble_eq_true rfl) rfl ?_
                refine w_aload rfl rfl ?_
                refine w_getIv (x := 0) rfl rfl (hI _ fmI_48_0) ?_
                refine w_if_ne rfl (fun h => absurd (by decide) h) (fun _ => ?_)
                refine w_pushI rfl ?_
                refine w_iret rfl (Or.inl rfl) ?_
                show gW _ _ _ _ _ _ _ _ _ _
                refine w_istore rfl rfl ?_
                refine w_iload rfl rfl ?_
                refine w_if_ge rfl (fun h => absurd h (by decide)) (fun _ => ?_)
                refine w_iload rfl rfl ?_
                refine w_iret rfl (Or.inl rfl) ?_
                show gW _ _ _ _ _ _ _ _ _ _
                refine w_istore rfl rfl ?_
                refine w_iload rfl rfl ?_
                refine w_if_ge rfl (fun h => absurd h (by decide)) (fun _ => ?_)
                refine w_iload rfl rfl ?_
                refine w_iret rfl (Or.inl rfl) ?_
                exact ⟨congrArg (fun v => some (Value.int v)) (show ((-11) : Int32) = f1_giveUp (5) b (1) by have e0 : (5 : Int32).toInt = 5 := rfl; have e1 : (1 : Int32).toInt = 1 := rfl; exact ite_eq_of (fun _ => rfl) (fun hc => absurd (by omega) hc)), rfl, fun x hx => rfl, fun x hx => rfl, fun x hx => rfl⟩
set_option maxHeartbeats 40000000 in
set_option maxRecDepth 100000 in
theorem a2_giveUp {X : Nat × (Nat → Int32)} {d : Nat} {I : Nat → Nat → Int32} {L : Nat → Nat → Int64} {R : Nat → Nat → Option Nat} (hI : ∀ q ∈ gFlI, 50 ≤ q.1 → I q.1 q.2.1 = q.2.2) (hL : ∀ q ∈ gFlL, 50 ≤ q.1 → L q.1 q.2.1 = q.2.2) (hR : ∀ q ∈ gFlR, 50 ≤ q.1 → R q.1 q.2.1 = some q.2.2) (a : Int32) (b : Int32) (c : Int32) : gW X (d + 12) 207 0 0 0 (gEn 207 [.ref 50, .int a, .int b, .int c]) [] (gK 87, I, L, R) (fun r _ => r = some (.int (f1_giveUp a b c))) := by
  show gW _ _ _ _ _ _ [some (.ref 50), some (.int a), some (.int b), some (.int c), none, none, none, none, none] _ _ _
  refine w_iload rfl rfl ?_
  refine w_callSi (As := [_]) (le := [some _]) rfl rfl (Nat.le_of_ble_eq_true rfl) (Nat.le_of_ble_eq_true rfl) rfl ?_
  refine w_iload rfl rfl ?_
  refine w_pushI rfl ?_
  refine w_pushI rfl ?_
  refine w_callSi (As := [_, _, _]) (le := [some _, some _, some _]) rfl rfl (Nat.le_of_ble_eq_true rfl) (Nat.le_of_ble_eq_true rfl) rfl ?_
  refine w_iload rfl rfl ?_
  refine w_iload rfl rfl ?_
  refine w_icmp_ltZ (b := 0) rfl rfl (by decide) (fun h1 => ?_) (fun h1 => ?_)
  · refine w_pushI rfl ?_
    refine w_iret rfl (Or.inr ⟨rfl, by decide⟩) ?_
    show gW _ _ _ _ _ _ _ _ _ _
    refine w_iret rfl (Or.inr ⟨rfl, by decide⟩) ?_
    show gW _ _ _ _ _ _ _ _ _ _
    refine w_if_eq rfl (fun _ => ?_) (fun h => absurd (by decide) h)
    refine w_pushI rfl ?_
    refine w_iret rfl (Or.inl rfl) ?_
    exact congrArg (fun v => some (Value.int v)) (show ((-1) : Int32) = f1_giveUp a b c by exact ite_eq_of (fun hc => absurd hc (by omega)) (fun _ => rfl))
  · refine w_iload rfl rfl ?_
    refine w_iload rfl rfl ?_
    refine w_icmp_gtZ (b := 5) rfl rfl (by decide) (fun h2 => ?_) (fun h2 => ?_)
    · refine w_pushI rfl ?_
      refine w_iret rfl (Or.inr ⟨rfl, by decide⟩) ?_
      show gW _ _ _ _ _ _ _ _ _ _
      refine w_iret rfl (Or.inr ⟨rfl, by decide⟩) ?_
      show gW _ _ _ _ _ _ _ _ _ _
      refine w_if_eq rfl (fun _ => ?_) (fun h => absurd (by decide) h)
      refine w_pushI rfl ?_
      refine w_iret rfl (Or.inl rfl) ?_
      exact congrArg (fun v => some (Value.int v)) (show ((-1) : Int32) = f1_giveUp a b c by exact ite_eq_of (fun hc => absurd hc (by omega)) (fun _ => rfl))
    · refine w_pushI rfl ?_
      refine w_goto rfl ?_
      refine w_iret rfl (Or.inr ⟨rfl, by decide⟩) ?_
      show gW _ _ _ _ _ _ _ _ _ _
      refine w_iret rfl (Or.inr ⟨rfl, by decide⟩) ?_
      show gW _ _ _ _ _ _ _ _ _ _
      refine w_if_eq rfl (fun h => absurd h (by decide)) (fun _ => ?_)
      refine w_iload rfl rfl ?_
      refine w_if_ltZ rfl rfl (fun h3 => ?_) (fun h3 => ?_)
      · refine w_pushI rfl ?_
        refine w_iret rfl (Or.inl rfl) ?_
        exact congrArg (fun v => some (Value.int v)) (show ((-1) : Int32) = f1_giveUp a b c by exact ite_eq_of (fun hc => absurd hc (by omega)) (fun _ => rfl))
      · refine w_iload rfl rfl ?_
        refine w_pushI rfl ?_
        refine w_idiv rfl (by decide) ?_
        refine w_pushI rfl ?_
        have hd4 : (b / 100).toInt = b.toInt / 100 := by rw [Kit.i32_div (by intro h; exact absurd h.2 (by decide)), Int.tdiv_eq_ediv_of_nonneg (by omega)]; rfl
        refine w_icmp_gtZ (b := 9999) rfl rfl (by decide) (fun h5 => ?_) (fun h5 => ?_)
        · refine w_pushI rfl ?_
          refine w_iret rfl (Or.inl rfl) ?_
          exact congrArg (fun v => some (Value.int v)) (show ((-1) : Int32) = f1_giveUp a b c by exact ite_eq_of (fun hc => (by exfalso; omega)) (fun hc => rfl))
        · refine w_iload rfl rfl ?_
          refine w_pushI rfl ?_
          refine w_pushI rfl ?_
          refine w_callSi (As := [_, _, _]) (le := [some _, some _, some _]) rfl rfl (Nat.le_of_ble_eq_true rfl) (Nat.le_of_ble_eq_true rfl) rfl ?_
          refine w_iload rfl rfl ?_
          refine w_iload rfl rfl ?_
          refine w_icmp_ltZ (b := 0) rfl rfl (by decide) (fun h6 => ?_) (fun h6 => ?_)
          · refine w_pushI rfl ?_
            refine w_iret rfl (Or.inr ⟨rfl, by decide⟩) ?_
            show gW _ _ _ _ _ _ _ _ _ _
            refine w_if_ne rfl (fun h => absurd (by decide) h) (fun _ => ?_)
            refine w_pushI rfl ?_
            refine w_iret rfl (Or.inl rfl) ?_
            exact congrArg (fun v => some (Value.int v)) (show ((-1) : Int32) = f1_giveUp a b c by exact ite_eq_of (fun hc => absurd hc (by omega)) (fun _ => rfl))
          · refine w_iload rfl rfl ?_
            refine w_iload rfl rfl ?_
            refine w_icmp_gtZ (b := 1) rfl rfl (by decide) (fun h7 => ?_) (fun h7 => ?_)
            · refine w_pushI rfl ?_
              refine w_iret rfl (Or.inr ⟨rfl, by decide⟩) ?_
              show gW _ _ _ _ _ _ _ _ _ _
              refine w_if_ne rfl (fun h => absurd (by decide) h) (fun _ => ?_)
              refine w_pushI rfl ?_
              refine w_iret rfl (Or.inl rfl) ?_
              exact congrArg (fun v => some (Value.int v)) (show ((-1) : Int32) = f1_giveUp a b c by exact ite_eq_of (fun hc => absurd hc (by omega)) (fun _ => rfl))
            · refine w_pushI rfl ?_
              refine w_goto rfl ?_
              refine w_iret rfl (Or.inr ⟨rfl, by decide⟩) ?_
              show gW _ _ _ _ _ _ _ _ _ _
              refine w_if_ne rfl (fun _ => ?_) (fun h => absurd h (by decide))
              refine w_aload rfl rfl ?_
              refine w_iload rfl rfl ?_
              refine w_callVi (As := [_]) (le := [some _, some _]) rfl rfl rfl (Nat.le_of_ble_eq_true rfl) (Nat.le_of_ble_eq_true rfl) rfl ?_
              refine w_aload rfl rfl ?_
              refine w_getR (r := 83) rfl rfl (hR _ fmR_50_58 (by decide)) ?_
              refine w_iload rfl rfl ?_
              rcases (show a.toInt = 0 ∨ a.toInt = 1 ∨ a.toInt = 2 ∨ a.toInt = 3 ∨ a.toInt = 4 ∨ a.toInt = 5 by omega) with hs8 | hs8 | hs8 | hs8 | hs8 | hs8
              · obtain rfl : a = 0 := i_is hs8 (by decide)
                refine w_ialdv (j := 0) (x := (-1)) rfl rfl (by decide) (by unfold vp_in; decide) (hI _ fmI_83_0 (by decide)) ?_
                refine w_pushI rfl ?_
                refine w_icmp_ne rfl (fun h => absurd (by decide) h) (fun _ => ?_)
                refine w_pushI rfl ?_
                refine w_goto rfl ?_
                refine w_iret rfl (Or.inl rfl) ?_
                show gW _ _ _ _ _ _ _ _ _ _
                refine w_if_ge rfl (fun h => absurd h (by decide)) (fun _ => ?_)
                refine w_aload rfl rfl ?_
                refine w_iload rfl rfl ?_
                refine w_topv (z := 0) (by decide) ?_
                refine w_callVi (As := [_]) (le := [some _, some _]) rfl rfl rfl (Nat.le_of_ble_eq_true rfl) (Nat.le_of_ble_eq_true rfl) rfl ?_
                refine w_aload rfl rfl ?_
                refine w_getR (r := 83) rfl rfl (hR _ fmR_50_58 (by decide)) ?_
                refine w_iload rfl rfl ?_
                refine w_ialdv (j := 0) (x := (-1)) rfl rfl (by decide) (by unfold vp_in; decide) (hI _ fmI_83_0 (by decide)) ?_
                refine w_pushI rfl ?_
                refine w_icmp_ne rfl (fun h => absurd (by decide) h) (fun _ => ?_)
                refine w_pushI rfl ?_
                refine w_goto rfl ?_
                refine w_iret rfl (Or.inl rfl) ?_
                show gW _ _ _ _ _ _ _ _ _ _
                refine w_iret rfl (Or.inl rfl) ?_
                exact congrArg (fun v => some (Value.int v)) (show ((-11) : Int32) = f1_giveUp (0) b c by have e0 : (0 : Int32).toInt = 0 := rfl; exact ite_eq_of (fun hc => rfl) (fun hc => (by exfalso; omega)))
              · obtain rfl : a = 1 := i_is hs8 (by decide)
                refine w_ialdv (j := 1) (x := (-1)) rfl rfl (by decide) (by unfold vp_in; decide) (hI _ fmI_83_1 (by decide)) ?_
                refine w_pushI rfl ?_
                refine w_icmp_ne rfl (fun h => absurd (by decide) h) (fun _ => ?_)
                refine w_pushI rfl ?_
                refine w_goto rfl ?_
                refine w_iret rfl (Or.inl rfl) ?_
                show gW _ _ _ _ _ _ _ _ _ _
                refine w_if_ge rfl (fun h => absurd h (by decide)) (fun _ => ?_)
                refine w_aload rfl rfl ?_
                refine w_iload rfl rfl ?_
                refine w_topv (z := 1) (by decide) ?_
                refine w_callVi (As := [_]) (le := [some _, some _]) rfl rfl rfl (Nat.le_of_ble_eq_true rfl) (Nat.le_of_ble_eq_true rfl) rfl ?_
                refine w_aload rfl rfl ?_
                refine w_getR (r := 83) rfl rfl (hR _ fmR_50_58 (by decide)) ?_
                refine w_iload rfl rfl ?_
                refine w_ialdv (j := 1) (x := (-1)) rfl rfl (by decide) (by unfold vp_in; decide) (hI _ fmI_83_1 (by decide)) ?_
                refine w_pushI rfl ?_
                refine w_icmp_ne rfl (fun h => absurd (by decide) h) (fun _ => ?_)
                refine w_pushI rfl ?_
                refine w_goto rfl ?_
                refine w_iret rfl (Or.inl rfl) ?_
                show gW _ _ _ _ _ _ _ _ _ _
                refine w_iret rfl (Or.inl rfl) ?_
                exact congrArg (fun v => some (Value.int v)) (show ((-11) : Int32) = f1_giveUp (1) b c by have e0 : (1 : Int32).toInt = 1 := rfl; exact ite_eq_of (fun hc => rfl) (fun hc => (by exfalso; omega)))
              · obtain rfl : a = 2 := i_is hs8 (by decide)
                refine w_ialdv (j := 2) (x := (-1)) rfl rfl (by decide) (by unfold vp_in; decide) (hI _ fmI_83_2 (by decide)) ?_
                refine w_pushI rfl ?_
                refine w_icmp_ne rfl (fun h => absurd (by decide) h) (fun _ => ?_)
                refine w_pushI rfl ?_
                refine w_goto rfl ?_
                refine w_iret rfl (Or.inl rfl) ?_
                show gW _ _ _ _ _ _ _ _ _ _
                refine w_if_ge rfl (fun h => absurd h (by decide)) (fun _ => ?_)
                refine w_aload rfl rfl ?_
                refine w_iload rfl rfl ?_
                refine w_topv (z := 2) (by decide) ?_
                refine w_callVi (As := [_]) (le := [some _, some _]) rfl rfl rfl (Nat.le_of_ble_eq_true rfl) (Nat.le_of_ble_eq_true rfl) rfl ?_
                refine w_aload rfl rfl ?_
                refine w_getR (r := 83) rfl rfl (hR _ fmR_50_58 (by decide)) ?_
                refine w_iload rfl rfl ?_
                refine w_ialdv (j := 2) (x := (-1)) rfl rfl (by decide) (by unfold vp_in; decide) (hI _ fmI_83_2 (by decide)) ?_
                refine w_pushI rfl ?_
                refine w_icmp_ne rfl (fun h => absurd (by decide) h) (fun _ => ?_)
                refine w_pushI rfl ?_
                refine w_goto rfl ?_
                refine w_iret rfl (Or.inl rfl) ?_
                show gW _ _ _ _ _ _ _ _ _ _
                refine w_iret rfl (Or.inl rfl) ?_
                exact congrArg (fun v => some (Value.int v)) (show ((-11) : Int32) = f1_giveUp (2) b c by have e0 : (2 : Int32).toInt = 2 := rfl; exact ite_eq_of (fun hc => rfl) (fun hc => (by exfalso; omega)))
              · obtain rfl : a = 3 := i_is hs8 (by decide)
                refine w_ialdv (j := 3) (x := (-1)) rfl rfl (by decide) (by unfold vp_in; decide) (hI _ fmI_83_3 (by decide)) ?_
                refine w_pushI rfl ?_
                refine w_icmp_ne rfl (fun h => absurd (by decide) h) (fun _ => ?_)
                refine w_pushI rfl ?_
                refine w_goto rfl ?_
                refine w_iret rfl (Or.inl rfl) ?_
                show gW _ _ _ _ _ _ _ _ _ _
                refine w_if_ge rfl (fun h => absurd h (by decide)) (fun _ => ?_)
                refine w_aload rfl rfl ?_
                refine w_iload rfl rfl ?_
                refine w_topv (z := 3) (by decide) ?_
                refine w_callVi (As := [_]) (le := [some _, some _]) rfl rfl rfl (Nat.le_of_ble_eq_true rfl) (Nat.le_of_ble_eq_true rfl) rfl ?_
                refine w_aload rfl rfl ?_
                refine w_getR (r := 83) rfl rfl (hR _ fmR_50_58 (by decide)) ?_
                refine w_iload rfl rfl ?_
                refine w_ialdv (j := 3) (x := (-1)) rfl rfl (by decide) (by unfold vp_in; decide) (hI _ fmI_83_3 (by decide)) ?_
                refine w_pushI rfl ?_
                refine w_icmp_ne rfl (fun h => absurd (by decide) h) (fun _ => ?_)
                refine w_pushI rfl ?_
                refine w_goto rfl ?_
                refine w_iret rfl (Or.inl rfl) ?_
                show gW _ _ _ _ _ _ _ _ _ _
                refine w_iret rfl (Or.inl rfl) ?_
                exact congrArg (fun v => some (Value.int v)) (show ((-11) : Int32) = f1_giveUp (3) b c by have e0 : (3 : Int32).toInt = 3 := rfl; exact ite_eq_of (fun hc => rfl) (fun hc => (by exfalso; omega)))
              · obtain rfl : a = 4 := i_is hs8 (by decide)
                refine w_ialdv (j := 4) (x := (-1)) rfl rfl (by decide) (by unfold vp_in; decide) (hI _ fmI_83_4 (by decide)) ?_
                refine w_pushI rfl ?_
                refine w_icmp_ne rfl (fun h => absurd (by decide) h) (fun _ => ?_)
                refine w_pushI rfl ?_
                refine w_goto rfl ?_
                refine w_iret rfl (Or.inl rfl) ?_
                show gW _ _ _ _ _ _ _ _ _ _
                refine w_if_ge rfl (fun h => absurd h (by decide)) (fun _ => ?_)
                refine w_aload rfl rfl ?_
                refine w_iload rfl rfl ?_
                refine w_topv (z := 4) (by decide) ?_
                refine w_callVi (As := [_]) (le := [some _, some _]) rfl rfl rfl (Nat.le_of_ble_eq_true rfl) (Nat.le_of_ble_eq_true rfl) rfl ?_
                refine w_aload rfl rfl ?_
                refine w_getR (r := 83) rfl rfl (hR _ fmR_50_58 (by decide)) ?_
                refine w_iload rfl rfl ?_
                refine w_ialdv (j := 4) (x := (-1)) rfl rfl (by decide) (by unfold vp_in; decide) (hI _ fmI_83_4 (by decide)) ?_
                refine w_pushI rfl ?_
                refine w_icmp_ne rfl (fun h => absurd (by decide) h) (fun _ => ?_)
                refine w_pushI rfl ?_
                refine w_goto rfl ?_
                refine w_iret rfl (Or.inl rfl) ?_
                show gW _ _ _ _ _ _ _ _ _ _
                refine w_iret rfl (Or.inl rfl) ?_
                exact congrArg (fun v => some (Value.int v)) (show ((-11) : Int32) = f1_giveUp (4) b c by have e0 : (4 : Int32).toInt = 4 := rfl; exact ite_eq_of (fun hc => rfl) (fun hc => (by exfalso; omega)))
              · obtain rfl : a = 5 := i_is hs8 (by decide)
                refine w_ialdv (j := 5) (x := (-1)) rfl rfl (by decide) (by unfold vp_in; decide) (hI _ fmI_83_5 (by decide)) ?_
                refine w_pushI rfl ?_
                refine w_icmp_ne rfl (fun h => absurd (by decide) h) (fun _ => ?_)
                refine w_pushI rfl ?_
                refine w_goto rfl ?_
                refine w_iret rfl (Or.inl rfl) ?_
                show gW _ _ _ _ _ _ _ _ _ _
                refine w_if_ge rfl (fun h => absurd h (by decide)) (fun _ => ?_)
                refine w_aload rfl rfl ?_
                refine w_iload rfl rfl ?_
                refine w_topv (z := 5) (by decide) ?_
                refine w_callVi (As := [_]) (le := [some _, some _]) rfl rfl rfl (Nat.le_of_ble_eq_true rfl) (Nat.le_of_ble_eq_true rfl) rfl ?_
                refine w_aload rfl rfl ?_
                refine w_getR (r := 83) rfl rfl (hR _ fmR_50_58 (by decide)) ?_
                refine w_iload rfl rfl ?_
                refine w_ialdv (j := 5) (x := (-1)) rfl rfl (by decide) (by unfold vp_in; decide) (hI _ fmI_83_5 (by decide)) ?_
                refine w_pushI rfl ?_
                refine w_icmp_ne rfl (fun h => absurd (by decide) h) (fun _ => ?_)
                refine w_pushI rfl ?_
                refine w_goto rfl ?_
                refine w_iret rfl (Or.inl rfl) ?_
                show gW _ _ _ _ _ _ _ _ _ _
                refine w_iret rfl (Or.inl rfl) ?_
                exact congrArg (fun v => some (Value.int v)) (show ((-11) : Int32) = f1_giveUp (5) b c by have e0 : (5 : Int32).toInt = 5 := rfl; exact ite_eq_of (fun hc => rfl) (fun hc => (by exfalso; omega)))
set_option maxHeartbeats 40000000 in
set_option maxRecDepth 100000 in
theorem a1_seen {X : Nat × (Nat → Int32)} {d : Nat} {I : Nat → Nat → Int32} {L : Nat → Nat → Int64} {R : Nat → Nat → Option Nat} (hI : ∀ q ∈ gFlI, I q.1 q.2.1 = q.2.2) (hL : ∀ q ∈ gFlL, L q.1 q.2.1 = q.2.2) (hR : ∀ q ∈ gFlR, R q.1 q.2.1 = some q.2.2) (a : Int32) (b : Int32) : gW X (d + 12) 116 0 0 0 (gEn 116 [.ref 0, .int a, .int b]) [] (gK 87, I, L, R) (fun r σ => r = some (.int (f1_seen a b)) ∧ gFr σ I L R) := by
  show gW _ _ _ _ _ _ [some (.ref 0), some (.int a), some (.int b), none, none] _ _ _
  refine w_iload rfl rfl ?_
  refine w_callSi (As := [_]) (le := [some _]) rfl rfl (Nat.le_of_ble_eq_true rfl) (Nat.le_of_ble_eq_true rfl) rfl ?_
  refine w_iload rfl rfl ?_
  refine w_if_ltZ rfl rfl (fun h1 => ?_) (fun h1 => ?_)
  · refine w_pushI rfl ?_
    refine w_iret rfl (Or.inr ⟨rfl, by decide⟩) ?_
    show gW _ _ _ _ _ _ _ _ _ _
    refine w_if_eq rfl (fun _ => ?_) (fun h => absurd (by decide) h)
    refine w_pushI rfl ?_
    refine w_iret rfl (Or.inl rfl) ?_
    exact ⟨congrArg (fun v => some (Value.int v)) (show ((-1) : Int32) = f1_seen a b by exact ite_eq_of (fun hc => absurd hc (by omega)) (fun _ => rfl)), rfl, fun x hx => rfl, fun x hx => rfl, fun x hx => rfl⟩
  · refine w_iload rfl rfl ?_
    refine w_pushI rfl ?_
    refine w_icmp_geZ (b := 10000) rfl rfl (by decide) (fun h2 => ?_) (fun h2 => ?_)
    · refine w_pushI rfl ?_
      refine w_iret rfl (Or.inr ⟨rfl, by decide⟩) ?_
      show gW _ _ _ _ _ _ _ _ _ _
      refine w_if_eq rfl (fun _ => ?_) (fun h => absurd (by decide) h)
      refine w_pushI rfl ?_
      refine w_iret rfl (Or.inl rfl) ?_
      exact ⟨congrArg (fun v => some (Value.int v)) (show ((-1) : Int32) = f1_seen a b by exact ite_eq_of (fun hc => absurd hc (by omega)) (fun _ => rfl)), rfl, fun x hx => rfl, fun x hx => rfl, fun x hx => rfl⟩
    · refine w_pushI rfl ?_
      refine w_goto rfl ?_
      refine w_iret rfl (Or.inr ⟨rfl, by decide⟩) ?_
      show gW _ _ _ _ _ _ _ _ _ _
      refine w_if_eq rfl (fun h => absurd h (by decide)) (fun _ => ?_)
      refine w_iload rfl rfl ?_
      refine w_if_ltZ rfl rfl (fun h3 => ?_) (fun h3 => ?_)
      · refine w_pushI rfl ?_
        refine w_iret rfl (Or.inl rfl) ?_
        exact ⟨congrArg (fun v => some (Value.int v)) (show ((-1) : Int32) = f1_seen a b by exact ite_eq_of (fun hc => absurd hc (by omega)) (fun _ => rfl)), rfl, fun x hx => rfl, fun x hx => rfl, fun x hx => rfl⟩
      · refine w_iload rfl rfl ?_
        refine w_pushI rfl ?_
        refine w_icmp_leZ (b := 99) rfl rfl (by decide) (fun h4 => ?_) (fun h4 => ?_)
        · refine w_pushI rfl ?_
          refine w_istore rfl rfl ?_
          refine w_pushI rfl ?_
          refine w_istore rfl rfl ?_
          refine w_iload rfl rfl ?_
          refine w_aload rfl rfl ?_
          refine w_getR (r := 8) rfl rfl (hR _ fmR_0_1) ?_
          refine w_getIv (x := 0) rfl rfl (hI _ fmI_8_2) ?_
          refine w_icmp_ge rfl (fun _ => ?_) (fun h => absurd (by decide) h)
          refine w_iload rfl rfl ?_
          refine w_iret rfl (Or.inl rfl) ?_
          exact ⟨congrArg (fun v => some (Value.int v)) (show (0 : Int32) = f1_seen a b by exact ite_eq_of (fun _ => rfl) (fun hc => absurd (by omega) hc)), rfl, fun x hx => rfl, fun x hx => rfl, fun x hx => rfl⟩
        · refine w_pushI rfl ?_
          refine w_iret rfl (Or.inl rfl) ?_
          exact ⟨congrArg (fun v => some (Value.int v)) (show ((-1) : Int32) = f1_seen a b by exact ite_eq_of (fun hc => absurd hc (by omega)) (fun _ => rfl)), rfl, fun x hx => rfl, fun x hx => rfl, fun x hx => rfl⟩
set_option maxHeartbeats 40000000 in
set_option maxRecDepth 100000 in
theorem a2_seen {X : Nat × (Nat → Int32)} {d : Nat} {I : Nat → Nat → Int32} {L : Nat → Nat → Int64} {R : Nat → Nat → Option Nat} (hI : ∀ q ∈ gFlI, 50 ≤ q.1 → I q.1 q.2.1 = q.2.2) (hL : ∀ q ∈ gFlL, 50 ≤ q.1 → L q.1 q.2.1 = q.2.2) (hR : ∀ q ∈ gFlR, 50 ≤ q.1 → R q.1 q.2.1 = some q.2.2) (a : Int32) (b : Int32) : gW X (d + 12) 209 0 0 0 (gEn 209 [.ref 50, .int a, .int b]) [] (gK 87, I, L, R) (fun r _ => r = some (.int (f1_seen a b))) := by
  show gW _ _ _ _ _ _ [some (.ref 50), some (.int a), some (.int b), none, none] _ _ _
  refine w_iload rfl rfl ?_
  refine w_pushI rfl ?_
  refine w_pushI rfl ?_
  refine w_callSi (As := [_, _, _]) (le := [some _, some _, some _]) rfl rfl (Nat.le_of_ble_eq_true rfl) (Nat.le_of_ble_eq_true rfl) rfl ?_
  refine w_iload rfl rfl ?_
  refine w_iload rfl rfl ?_
  refine w_icmp_ltZ (b := 0) rfl rfl (by decide) (fun h1 => ?_) (fun h1 => ?_)
  · refine w_pushI rfl ?_
    refine w_iret rfl (Or.inr ⟨rfl, by decide⟩) ?_
    show gW _ _ _ _ _ _ _ _ _ _
    refine w_if_eq rfl (fun _ => ?_) (fun h => absurd (by decide) h)
    refine w_pushI rfl ?_
    refine w_iret rfl (Or.inl rfl) ?_
    exact congrArg (fun v => some (Value.int v)) (show ((-1) : Int32) = f1_seen a b by exact ite_eq_of (fun hc => absurd hc (by omega)) (fun _ => rfl))
  · refine w_iload rfl rfl ?_
    refine w_iload rfl rfl ?_
    refine w_icmp_gtZ (b := 9999) rfl rfl (by decide) (fun h2 => ?_) (fun h2 => ?_)
    · refine w_pushI rfl ?_
      refine w_iret rfl (Or.inr ⟨rfl, by decide⟩) ?_
      show gW _ _ _ _ _ _ _ _ _ _
      refine w_if_eq rfl (fun _ => ?_) (fun h => absurd (by decide) h)
      refine w_pushI rfl ?_
      refine w_iret rfl (Or.inl rfl) ?_
      exact congrArg (fun v => some (Value.int v)) (show ((-1) : Int32) = f1_seen a b by exact ite_eq_of (fun hc => absurd hc (by omega)) (fun _ => rfl))
    · refine w_pushI rfl ?_
      refine w_goto rfl ?_
      refine w_iret rfl (Or.inr ⟨rfl, by decide⟩) ?_
      show gW _ _ _ _ _ _ _ _ _ _
      refine w_if_eq rfl (fun h => absurd h (by decide)) (fun _ => ?_)
      refine w_iload rfl rfl ?_
      refine w_pushI rfl ?_
      refine w_pushI rfl ?_
      refine w_callSi (As := [_, _, _]) (le := [some _, some _, some _]) rfl rfl (Nat.le_of_ble_eq_true rfl) (Nat.le_of_ble_eq_true rfl) rfl ?_
      refine w_iload rfl rfl ?_
      refine w_iload rfl rfl ?_
      refine w_icmp_ltZ (b := 0) rfl rfl (by decide) (fun h3 => ?_) (fun h3 => ?_)
      · refine w_pushI rfl ?_
        refine w_iret rfl (Or.inr ⟨rfl, by decide⟩) ?_
        show gW _ _ _ _ _ _ _ _ _ _
        refine w_if_ne rfl (fun h => absurd (by decide) h) (fun _ => ?_)
        refine w_pushI rfl ?_
        refine w_iret rfl (Or.inl rfl) ?_
        exact congrArg (fun v => some (Value.int v)) (show ((-1) : Int32) = f1_seen a b by exact ite_eq_of (fun hc => absurd hc (by omega)) (fun _ => rfl))
      · refine w_iload rfl rfl ?_
        refine w_iload rfl rfl ?_
        refine w_icmp_gtZ (b := 99) rfl rfl (by decide) (fun h4 => ?_) (fun h4 => ?_)
        · refine w_pushI rfl ?_
          refine w_iret rfl (Or.inr ⟨rfl, by decide⟩) ?_
          show gW _ _ _ _ _ _ _ _ _ _
          refine w_if_ne rfl (fun h => absurd (by decide) h) (fun _ => ?_)
          refine w_pushI rfl ?_
          refine w_iret rfl (Or.inl rfl) ?_
          exact congrArg (fun v => some (Value.int v)) (show ((-1) : Int32) = f1_seen a b by exact ite_eq_of (fun hc => absurd hc (by omega)) (fun _ => rfl))
        · refine w_pushI rfl ?_
          refine w_goto rfl ?_
          refine w_iret rfl (Or.inr ⟨rfl, by decide⟩) ?_
          show gW _ _ _ _ _ _ _ _ _ _
          refine w_if_ne rfl (fun _ => ?_) (fun h => absurd h (by decide))
          refine w_pushI rfl ?_
          refine w_istore rfl rfl ?_
          refine w_pushI rfl ?_
          refine w_istore rfl rfl ?_
          refine w_iload rfl rfl ?_
          refine w_aload rfl rfl ?_
          refine w_getIv (x := 0) rfl rfl (hI _ fmI_50_1 (by decide)) ?_
          refine w_icmp_ge rfl (fun _ => ?_) (fun h => absurd (by decide) h)
          refine w_iload rfl rfl ?_
          refine w_iret rfl (Or.inl rfl) ?_
          exact congrArg (fun v => some (Value.int v)) (show (0 : Int32) = f1_seen a b by exact ite_eq_of (fun _ => rfl) (fun hc => absurd (by omega) hc))
