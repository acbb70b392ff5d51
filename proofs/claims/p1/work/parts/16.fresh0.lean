set_option maxHeartbeats 40000000 in
set_option maxRecDepth 100000 in
theorem a1_place {X : Nat × (Nat → Int32)} {d : Nat} {I : Nat → Nat → Int32} {L : Nat → Nat → Int64} {R : Nat → Nat → Option Nat} (hI : ∀ q ∈ gFlI, I q.1 q.2.1 = q.2.2) (hL : ∀ q ∈ gFlL, L q.1 q.2.1 = q.2.2) (hR : ∀ q ∈ gFlR, R q.1 q.2.1 = some q.2.2) (a : Int32) (b : Int32) : gW X (d + 12) 101 0 0 0 (gEn 101 [.ref 0, .int a, .int b]) [] (gK 87, I, L, R) (fun r σ => r = some (.int (f1_place a b)) ∧ gFr σ I L R) := by
  show gW _ _ _ _ _ _ [some (.ref 0), some (.int a), some (.int b)] _ _ _
  refine w_iload rfl rfl ?_
  refine w_callSi (As := [_]) (le := [some _]) rfl rfl (Nat.le_of_ble_eq_true rfl) (Nat.le_of_ble_eq_true rfl) rfl ?_
  refine w_iload rfl rfl ?_
  refine w_if_ltZ rfl rfl (fun h1 => ?_) (fun h1 => ?_)
  · refine w_pushI rfl ?_
    refine w_iret rfl (Or.inr ⟨rfl, by decide⟩) ?_
    show gW _ _ _ _ _ _ _ _ _ _
    refine w_if_eq rfl (fun _ => ?_) (fun h => absurd (by decide) h)
    refine w_pushI rfl ?_
    refine w_iret rfl (Or.inl rfl) ?_
    exact ⟨congrArg (fun v => some (Value.int v)) (show ((-1) : Int32) = f1_place a b by exact ite_eq_of (fun hc => absurd hc (by omega)) (fun _ => rfl)), rfl, fun x hx => rfl, fun x hx => rfl, fun x hx => rfl⟩
  · refine w_iload rfl rfl ?_
    refine w_pushI rfl ?_
    refine w_icmp_geZ (b := 10000) rfl rfl (by decide) (fun h2 => ?_) (fun h2 => ?_)
    · refine w_pushI rfl ?_
      refine w_iret rfl (Or.inr ⟨rfl, by decide⟩) ?_
      show gW _ _ _ _ _ _ _ _ _ _
      refine w_if_eq rfl (fun _ => ?_) (fun h => absurd (by decide) h)
      refine w_pushI rfl ?_
      refine w_iret rfl (Or.inl rfl) ?_
      exact ⟨congrArg (fun v => some (Value.int v)) (show ((-1) : Int32) = f1_place a b by exact ite_eq_of (fun hc => absurd hc (by omega)) (fun _ => rfl)), rfl, fun x hx => rfl, fun x hx => rfl, fun x hx => rfl⟩
    · refine w_pushI rfl ?_
      refine w_goto rfl ?_
      refine w_iret rfl (Or.inr ⟨rfl, by decide⟩) ?_
      show gW _ _ _ _ _ _ _ _ _ _
      refine w_if_eq rfl (fun h => absurd h (by decide)) (fun _ => ?_)
      refine w_pushI rfl ?_
      refine w_iload rfl rfl ?_
      refine w_callSi (As := [_, _]) (le := [some _, some _]) rfl rfl (Nat.le_of_ble_eq_true rfl) (Nat.le_of_ble_eq_true rfl) rfl ?_
      refine w_iload rfl rfl ?_
      refine w_if_lt rfl (fun h => absurd h (by decide)) (fun _ => ?_)
      refine w_iload rfl rfl ?_
      refine w_pushI rfl ?_
      refine w_icmp_ge rfl (fun h => absurd h (by decide)) (fun _ => ?_)
      refine w_iload rfl rfl ?_
      refine w_getS rfl ?_
      refine w_iload rfl rfl ?_
      refine w_saldv (n := 14) (q := 2) (x := 0) rfl (by decide) rfl (by unfold vp_in; decide) (by decide) rfl ?_
      refine w_icmp_ltZ (b := 0) rfl rfl (by decide) (fun h3 => ?_) (fun h3 => ?_)
      · refine w_pushI rfl ?_
        refine w_iret rfl (Or.inr ⟨rfl, by decide⟩) ?_
        show gW _ _ _ _ _ _ _ _ _ _
        refine w_if_ne rfl (fun h => absurd (by decide) h) (fun _ => ?_)
        refine w_pushI rfl ?_
        refine w_iret rfl (Or.inl rfl) ?_
        exact ⟨congrArg (fun v => some (Value.int v)) (show ((-1) : Int32) = f1_place a b by exact ite_eq_of (fun hc => absurd hc (by omega)) (fun _ => rfl)), rfl, fun x hx => rfl, fun x hx => rfl, fun x hx => rfl⟩
      · refine w_iload rfl rfl ?_
        refine w_getS rfl ?_
        refine w_iload rfl rfl ?_
        refine w_saldv (n := 14) (q := 2) (x := 99) rfl (by decide) rfl (by unfold vp_in; decide) (by decide) rfl ?_
        refine w_icmp_gtZ (b := 99) rfl rfl (by decide) (fun h4 => ?_) (fun h4 => ?_)
        · refine w_pushI rfl ?_
          refine w_iret rfl (Or.inr ⟨rfl, by decide⟩) ?_
          show gW _ _ _ _ _ _ _ _ _ _
          refine w_if_ne rfl (fun h => absurd (by decide) h) (fun _ => ?_)
          refine w_pushI rfl ?_
          refine w_iret rfl (Or.inl rfl) ?_
          exact ⟨congrArg (fun v => some (Value.int v)) (show ((-1) : Int32) = f1_place a b by exact ite_eq_of (fun hc => absurd hc (by omega)) (fun _ => rfl)), rfl, fun x hx => rfl, fun x hx => rfl, fun x hx => rfl⟩
        · refine w_pushI rfl ?_
          refine w_goto rfl ?_
          refine w_iret rfl (Or.inr ⟨rfl, by decide⟩) ?_
          show gW _ _ _ _ _ _ _ _ _ _
          refine w_if_ne rfl (fun _ => ?_) (fun h => absurd h (by decide))
          refine w_aload rfl rfl ?_
          refine w_getR (r := 8) rfl rfl (hR _ fmR_0_1) ?_
          refine w_getIv (x := 0) rfl rfl (hI _ fmI_8_2) ?_
          refine w_pushI rfl ?_
          refine w_icmp_lt rfl (fun _ => ?_) (fun h => absurd (by decide) h)
          refine w_aload rfl rfl ?_
          refine w_getR (r := 8) rfl rfl (hR _ fmR_0_1) ?_
          refine w_iload rfl rfl ?_
          refine w_pushI rfl ?_
          refine w_irem rfl (by decide) ?_
          refine w_iload rfl rfl ?_
          refine w_pushI rfl ?_
          refine w_idiv rfl (by decide) ?_
          refine w_iload rfl rfl ?_
          refine w_callVi (As := [_, _, _]) (le := [some _, some _, some _, some _, none]) rfl rfl rfl (Nat.le_of_ble_eq_true rfl) (Nat.le_of_ble_eq_true rfl) rfl ?_
          refine w_aload rfl rfl ?_
          refine w_getIv (x := 0) rfl rfl (hI _ fmI_8_2) ?_
          refine w_istore rfl rfl ?_
          refine w_aload rfl rfl ?_
          refine w_dup rfl rfl ?_
          refine w_getIv (x := 0) rfl rfl (hI _ fmI_8_2) ?_
          refine w_pushI rfl ?_
          refine w_iaddv (z := 1) rfl (by decide) ?_
          refine w_putI rfl rfl ?_
          refine w_aload rfl rfl ?_
          refine w_iload rfl rfl ?_
          refine w_pushI rfl ?_
          refine w_iload rfl rfl ?_
          refine w_callVi (As := [_, _, _]) (le := [some _, some _, some _, some _, none]) rfl rfl rfl (Nat.le_of_ble_eq_true rfl) (Nat.le_of_ble_eq_true rfl) rfl ?_
          refine w_aload rfl rfl ?_
          refine w_iload rfl rfl ?_
          refine w_iload rfl rfl ?_
          refine w_callVi (As := [_, _]) (le := [some _, some _, some _]) rfl rfl rfl (Nat.le_of_ble_eq_true rfl) (Nat.le_of_ble_eq_true rfl) rfl ?_
          refine w_iload rfl rfl ?_
          refine w_if_lt rfl (fun h => absurd h (by decide)) (fun _ => ?_)
          refine w_iload rfl rfl ?_
          refine w_pushI rfl ?_
          refine w_icmp_lt rfl (fun _ => ?_) (fun h => absurd (by decide) h)
          refine w_iload rfl rfl ?_
          refine w_pushI rfl ?_
          refine w_icmp_ge rfl (fun h => absurd h (by decide)) (fun _ => ?_)
          refine w_aload rfl rfl ?_
          refine w_iload rfl rfl ?_
          refine w_callVi (As := [_]) (le := [some _, some _]) rfl rfl rfl (Nat.le_of_ble_eq_true rfl) (Nat.le_of_ble_eq_true rfl) rfl ?_
          refine w_iload rfl rfl ?_
          refine w_if_lt rfl (fun h => absurd h (by decide)) (fun _ => ?_)
          refine w_iload rfl rfl ?_
          refine w_aload rfl rfl ?_
          refine w_getIv (x := 1) rfl rfl (gU_e) ?_
          refine w_icmp_ge rfl (fun h => absurd h (by decide)) (fun _ => ?_)
          refine w_pushI rfl ?_
          refine w_goto rfl ?_
          refine w_iret rfl (Or.inr ⟨rfl, by decide⟩) ?_
          show gW _ _ _ _ _ _ _ _ _ _
          refine w_if_eq rfl (fun h => absurd h (by decide)) (fun _ => ?_)
          refine w_iload rfl rfl ?_
          refine w_pushI rfl ?_
          refine w_imulv (z := 0) rfl (by decide) ?_
          refine w_iload rfl rfl ?_
          refine w_iaddv (z := 0) rfl (by decide) ?_
          refine w_goto rfl ?_
          refine w_iret rfl (Or.inl rfl) ?_
          show gW _ _ _ _ _ _ _ _ _ _
          refine w_istore rfl rfl ?_
          refine w_iload rfl rfl ?_
          refine w_if_lt rfl (fun h => absurd h (by decide)) (fun _ => ?_)
          refine w_aload rfl rfl ?_
          refine w_getR (r := 9) rfl rfl (hR _ fmR_8_1) ?_
          refine w_iload rfl rfl ?_
          refine w_iload rfl rfl ?_
          refine w_iastv (j := 0) rfl rfl (by decide) (by unfold vp_in; decide) rfl ?_
          refine w_vret rfl rfl ?_
          show gW _ _ _ _ _ _ _ _ _ _
          refine w_aload rfl rfl ?_
          refine w_iload rfl rfl ?_
          refine w_pushI rfl ?_
          refine w_iload rfl rfl ?_
          refine w_callVi (As := [_, _, _]) (le := [some _, some _, some _, some _, none]) rfl rfl rfl (Nat.le_of_ble_eq_true rfl) (Nat.le_of_ble_eq_true rfl) rfl ?_
          refine w_aload rfl rfl ?_
          refine w_iload rfl rfl ?_
          refine w_iload rfl rfl ?_
          refine w_callVi (As := [_, _]) (le := [some _, some _, some _]) rfl rfl rfl (Nat.le_of_ble_eq_true rfl) (Nat.le_of_ble_eq_true rfl) rfl ?_
          refine w_iload rfl rfl ?_
          refine w_if_lt rfl (fun h => absurd h (by decide)) (fun _ => ?_)
          refine w_iload rfl rfl ?_
          refine w_pushI rfl ?_
          refine w_icmp_lt rfl (fun _ => ?_) (fun h => absurd (by decide) h)
          refine w_iload rfl rfl ?_
          refine w_pushI rfl ?_
          refine w_icmp_ge rfl (fun h => absurd h (by decide)) (fun _ => ?_)
          refine w_aload rfl rfl ?_
          refine w_iload rfl rfl ?_
          refine w_callVi (As := [_]) (le := [some _, some _]) rfl rfl rfl (Nat.le_of_ble_eq_true rfl) (Nat.le_of_ble_eq_true rfl) rfl ?_
          refine w_iload rfl rfl ?_
          refine w_if_lt rfl (fun h => absurd h (by decide)) (fun _ => ?_)
          refine w_iload rfl rfl ?_
          refine w_aload rfl rfl ?_
          refine w_getIv (x := 1) rfl rfl ((gU_n (by decide)).trans (gU_e)) ?_
          refine w_icmp_ge rfl (fun h => absurd h (by decide)) (fun _ => ?_)
          refine w_pushI rfl ?_
          refine w_goto rfl ?_
          refine w_iret rfl (Or.inr ⟨rfl, by decide⟩) ?_
          show gW _ _ _ _ _ _ _ _ _ _
          refine w_if_eq rfl (fun h => absurd h (by decide)) (fun _ => ?_)
          refine w_iload rfl rfl ?_
          refine w_pushI rfl ?_
          refine w_imulv (z := 0) rfl (by decide) ?_
          refine w_iload rfl rfl ?_
          refine w_iaddv (z := 1) rfl (by decide) ?_
          refine w_goto rfl ?_
          refine w_iret rfl (Or.inl rfl) ?_
          show gW _ _ _ _ _ _ _ _ _ _
          refine w_istore rfl rfl ?_
          refine w_iload rfl rfl ?_
          refine w_if_lt rfl (fun h => absurd h (by decide)) (fun _ => ?_)
          refine w_aload rfl rfl ?_
          refine w_getR (r := 9) rfl rfl (hR _ fmR_8_1) ?_
          refine w_iload rfl rfl ?_
          refine w_iload rfl rfl ?_
          refine w_iastv (j := 1) rfl rfl (by decide) (by unfold vp_in; decide) rfl ?_
          refine w_vret rfl rfl ?_
          show gW _ _ _ _ _ _ _ _ _ _
          refine w_aload rfl rfl ?_
          refine w_iload rfl rfl ?_
          refine w_pushI rfl ?_
          refine w_iload rfl rfl ?_
          refine w_callVi (As := [_, _, _]) (le := [some _, some _, some _, some _, none]) rfl rfl rfl (Nat.le_of_ble_eq_true rfl) (Nat.le_of_ble_eq_true rfl) rfl ?_
          refine w_aload rfl rfl ?_
          refine w_iload rfl rfl ?_
          refine w_iload rfl rfl ?_
          refine w_callVi (As := [_, _]) (le := [some _, some _, some _]) rfl rfl rfl (Nat.le_of_ble_eq_true rfl) (Nat.le_of_ble_eq_true rfl) rfl ?_
          refine w_iload rfl rfl ?_
          refine w_if_lt rfl (fun h => absurd h (by decide)) (fun _ => ?_)
          refine w_iload rfl rfl ?_
          refine w_pushI rfl ?_
          refine w_icmp_lt rfl (fun _ => ?_) (fun h => absurd (by decide) h)
          refine w_iload rfl rfl ?_
          refine w_pushI rfl ?_
          refine w_icmp_ge rfl (fun h => absurd h (by decide)) (fun _ => ?_)
          refine w_aload rfl rfl ?_
          refine w_iload rfl rfl ?_
          refine w_callVi (As := [_]) (le := [some _, some _]) rfl rfl rfl (Nat.le_of_ble_eq_true rfl) (Nat.le_of_ble_eq_true rfl) rfl ?_
          refine w_iload rfl rfl ?_
          refine w_if_lt rfl (fun h => absurd h (by decide)) (fun _ => ?_)
          refine w_iload rfl rfl ?_
          refine w_aload rfl rfl ?_
          refine w_getIv (x := 1) rfl rfl ((gU_n (by decide)).trans ((gU_n (by decide)).trans (gU_e))) ?_
          refine w_icmp_ge rfl (fun h => absurd h (by decide)) (fun _ => ?_)
          refine w_pushI rfl ?_
          refine w_goto rfl ?_
          refine w_iret rfl (Or.inr ⟨rfl, by decide⟩) ?_
          show gW _ _ _ _ _ _ _ _ _ _
          refine w_if_eq rfl (fun h => absurd h (by decide)) (fun _ => ?_)
          refine w_iload rfl rfl ?_
          refine w_pushI rfl ?_
          refine w_imulv (z := 0) rfl (by decide) ?_
          refine w_iload rfl rfl ?_
          refine w_iaddv (z := 2) rfl (by decide) ?_
          refine w_goto rfl ?_
          refine w_iret rfl (Or.inl rfl) ?_
          show gW _ _ _ _ _ _ _ _ _ _
          refine w_istore rfl rfl ?_
          refine w_iload rfl rfl ?_
          refine w_if_lt rfl (fun h => absurd h (by decide)) (fun _ => ?_)
          refine w_aload rfl rfl ?_
          refine w_getR (r := 9) rfl rfl (hR _ fmR_8_1) ?_
          refine w_iload rfl rfl ?_
          refine w_iload rfl rfl ?_
          refine w_iastv (j := 2) rfl rfl (by decide) (by unfold vp_in; decide) rfl ?_
          refine w_vret rfl rfl ?_
          show gW _ _ _ _ _ _ _ _ _ _
          refine w_aload rfl rfl ?_
          refine w_iload rfl rfl ?_
          refine w_pushI rfl ?_
          refine w_getS rfl ?_
          refine w_pushI rfl ?_
          refine w_saldv (n := 14) (q := 3) (x := 5) rfl (by decide) rfl (by unfold vp_in; decide) (by decide) rfl ?_
          refine w_callVi (As := [_, _, _]) (le := [some _, some _, some _, some _, none]) rfl rfl rfl (Nat.le_of_ble_eq_true rfl) (Nat.le_of_ble_eq_true rfl) rfl ?_
          refine w_aload rfl rfl ?_
          refine w_iload rfl rfl ?_
          refine w_iload rfl rfl ?_
          refine w_callVi (As := [_, _]) (le := [some _, some _, some _]) rfl rfl rfl (Nat.le_of_ble_eq_true rfl) (Nat.le_of_ble_eq_true rfl) rfl ?_
          refine w_iload rfl rfl ?_
          refine w_if_lt rfl (fun h => absurd h (by decide)) (fun _ => ?_)
          refine w_iload rfl rfl ?_
          refine w_pushI rfl ?_
          refine w_icmp_lt rfl (fun _ => ?_) (fun h => absurd (by decide) h)
          refine w_iload rfl rfl ?_
          refine w_pushI rfl ?_
          refine w_icmp_ge rfl (fun h => absurd h (by decide)) (fun _ => ?_)
          refine w_aload rfl rfl ?_
          refine w_iload rfl rfl ?_
          refine w_callVi (As := [_]) (le := [some _, some _]) rfl rfl rfl (Nat.le_of_ble_eq_true rfl) (Nat.le_of_ble_eq_true rfl) rfl ?_
          refine w_iload rfl rfl ?_
          refine w_if_lt rfl (fun h => absurd h (by decide)) (fun _ => ?_)
          refine w_iload rfl rfl ?_
          refine w_aload rfl rfl ?_
          refine w_getIv (x := 1) rfl rfl ((gU_n (by decide)).trans ((gU_n (by decide)).trans ((gU_n (by decide)).trans (gU_e)))) ?_
          refine w_icmp_ge rfl (fun h => absurd h (by decide)) (fun _ => ?_)
          refine w_pushI rfl ?_
          refine w_goto rfl ?_
          refine w_iret rfl (Or.inr ⟨rfl, by decide⟩) ?_
          show gW _ _ _ _ _ _ _ _ _ _
          refine w_if_eq rfl (fun h => absurd h (by decide)) (fun _ => ?_)
          refine w_iload rfl rfl ?_
          refine w_pushI rfl ?_
          refine w_imulv (z := 0) rfl (by decide) ?_
          refine w_iload rfl rfl ?_
          refine w_iaddv (z := 3) rfl (by decide) ?_
          refine w_goto rfl ?_
          refine w_iret rfl (Or.inl rfl) ?_
          show gW _ _ _ _ _ _ _ _ _ _
          refine w_istore rfl rfl ?_
          refine w_iload rfl rfl ?_
          refine w_if_lt rfl (fun h => absurd h (by decide)) (fun _ => ?_)
          refine w_aload rfl rfl ?_
          refine w_getR (r := 9) rfl rfl (hR _ fmR_8_1) ?_
          refine w_iload rfl rfl ?_
          refine w_iload rfl rfl ?_
          refine w_iastv (j := 3) rfl rfl (by decide) (by unfold vp_in; decide) rfl ?_
          refine w_vret rfl rfl ?_
          show gW _ _ _ _ _ _ _ _ _ _
          refine w_aload rfl rfl ?_
          refine w_iload rfl rfl ?_
          refine w_pushI rfl ?_
          refine w_getS rfl ?_
          refine w_pushI rfl ?_
          refine w_saldv (n := 14) (q := 4) (x := 0) rfl (by decide) rfl (by unfold vp_in; decide) (by decide) rfl ?_
          refine w_callVi (As := [_, _, _]) (le := [some _, some _, some _, some _, none]) rfl rfl rfl (Nat.le_of_ble_eq_true rfl) (Nat.le_of_ble_eq_true rfl) rfl ?_
          refine w_aload rfl rfl ?_
          refine w_iload rfl rfl ?_
          refine w_iload rfl rfl ?_
          refine w_callVi (As := [_, _]) (le := [some _, some _, some _]) rfl rfl rfl (Nat.le_of_ble_eq_true rfl) (Nat.le_of_ble_eq_true rfl) rfl ?_
          refine w_iload rfl rfl ?_
          refine w_if_lt rfl (fun h => absurd h (by decide)) (fun _ => ?_)
          refine w_iload rfl rfl ?_
          refine w_pushI rfl ?_
          refine w_icmp_lt rfl (fun _ => ?_) (fun h => absurd (by decide) h)
          refine w_iload rfl rfl ?_
          refine w_pushI rfl ?_
          refine w_icmp_ge rfl (fun h => absurd h (by decide)) (fun _ => ?_)
          refine w_aload rfl rfl ?_
          refine w_iload rfl rfl ?_
          refine w_callVi (As := [_]) (le := [some _, some _]) rfl rfl rfl (Nat.le_of_ble_eq_true rfl) (Nat.le_of_ble_eq_true rfl) rfl ?_
          refine w_iload rfl rfl ?_
          refine w_if_lt rfl (fun h => absurd h (by decide)) (fun _ => ?_)
          refine w_iload rfl rfl ?_
          refine w_aload rfl rfl ?_
          refine w_getIv (x := 1) rfl rfl ((gU_n (by decide)).trans ((gU_n (by decide)).trans ((gU_n (by decide)).trans ((gU_n (by decide)).trans (gU_e))))) ?_
          refine w_icmp_ge rfl (fun h => absurd h (by decide)) (fun _ => ?_)
          refine w_pushI rfl ?_
          refine w_goto rfl ?_
          refine w_iret rfl (Or.inr ⟨rfl, by decide⟩) ?_
          show gW _ _ _ _ _ _ _ _ _ _
          refine w_if_eq rfl (fun h => absurd h (by decide)) (fun _ => ?_)
          refine w_iload rfl rfl ?_
          refine w_pushI rfl ?_
          refine w_imulv (z := 0) rfl (by decide) ?_
          refine w_iload rfl rfl ?_
          refine w_iaddv (z := 4) rfl (by decide) ?_
          refine w_goto rfl ?_
          refine w_iret rfl (Or.inl rfl) ?_
          show gW _ _ _ _ _ _ _ _ _ _
          refine w_istore rfl rfl ?_
          refine w_iload rfl rfl ?_
          refine w_if_lt rfl (fun h => absurd h (by decide)) (fun _ => ?_)
          refine w_aload rfl rfl ?_
          refine w_getR (r := 9) rfl rfl (hR _ fmR_8_1) ?_
          refine w_iload rfl rfl ?_
          refine w_iload rfl rfl ?_
          refine w_iastv (j := 4) rfl rfl (by decide) (by unfold vp_in; decide) rfl ?_
          refine w_vret rfl rfl ?_
          show gW _ _ _ _ _ _ _ _ _ _
          refine w_iload rfl rfl ?_
          refine w_iret rfl (Or.inl rfl) ?_
          show gW _ _ _ _ _ _ _ _ _ _
          refine w_iret rfl (Or.inl rfl) ?_
          exact ⟨congrArg (fun v => some (Value.int v)) (show (0 : Int32) = f1_place a b by exact ite_eq_of (fun _ => rfl) (fun hc => absurd (by omega) hc)), rfl, fun x hx => (gU_o (by omega)).trans ((gU_o (by omega)).trans ((gU_o (by omega)).trans ((gU_o (by omega)).trans ((gU_o (by omega)).trans (gU_o (by omega)))))), fun x hx => rfl, fun x hx => rfl⟩
set_option maxHeartbeats 40000000 in
set_option maxRecDepth 100000 in
theorem a2_place {X : Nat × (Nat → Int32)} {d : Nat} {I : Nat → Nat → Int32} {L : Nat → Nat → Int64} {R : Nat → Nat → Option Nat} (hI : ∀ q ∈ gFlI, 50 ≤ q.1 → I q.1 q.2.1 = q.2.2) (hL : ∀ q ∈ gFlL, 50 ≤ q.1 → L q.1 q.2.1 = q.2.2) (hR : ∀ q ∈ gFlR, 50 ≤ q.1 → R q.1 q.2.1 = some q.2.2) (a : Int32) (b : Int32) : gW X (d + 12) 153 0 0 0 (gEn 153 [.ref 50, .int a, .int b]) [] (gK 87, I, L, R) (fun r _ => r = some (.int (f1_place a b))) := by
  show gW _ _ _ _ _ _ [some (.ref 50), some (.int a), some (.int b)] _ _ _
  refine w_iload rfl rfl ?_
  refine w_pushI rfl ?_
  refine w_pushI rfl ?_
  refine w_callSi (As := [_, _, _]) (le := [some _, some _, some _]) rfl rfl (Nat.le_of_ble_eq_true rfl) (Nat.le_of_ble_eq_true rfl) rfl ?_
  refine w_iload rfl rfl ?_
  refine w_iload rfl rfl ?_
  refine w_icmp_ltZ (b := 0) rfl rfl (by decide) (fun h1 => ?_) (fun h1 => ?_)
  · refine w_pushI rfl ?_
    refine w_iret rfl (Or.inr ⟨rfl, by decide⟩) ?_
    show gW _ _ _ _ _ _ _ _ _ _
    refine w_if_eq rfl (fun _ => ?_) (fun h => absurd (by decide) h)
    refine w_pushI rfl ?_
    refine w_iret rfl (Or.inl rfl) ?_
    exact congrArg (fun v => some (Value.int v)) (show ((-1) : Int32) = f1_place a b by exact ite_eq_of (fun hc => absurd hc (by omega)) (fun _ => rfl))
  · refine w_iload rfl rfl ?_
    refine w_iload rfl rfl ?_
    refine w_icmp_gtZ (b := 9999) rfl rfl (by decide) (fun h2 => ?_) (fun h2 => ?_)
    · refine w_pushI rfl ?_
      refine w_iret rfl (Or.inr ⟨rfl, by decide⟩) ?_
      show gW _ _ _ _ _ _ _ _ _ _
      refine w_if_eq rfl (fun _ => ?_) (fun h => absurd (by decide) h)
      refine w_pushI rfl ?_
      refine w_iret rfl (Or.inl rfl) ?_
      exact congrArg (fun v => some (Value.int v)) (show ((-1) : Int32) = f1_place a b by exact ite_eq_of (fun hc => absurd hc (by omega)) (fun _ => rfl))
    · refine w_pushI rfl ?_
      refine w_goto rfl ?_
      refine w_iret rfl (Or.inr ⟨rfl, by decide⟩) ?_
      show gW _ _ _ _ _ _ _ _ _ _
      refine w_if_eq rfl (fun h => absurd h (by decide)) (fun _ => ?_)
      refine w_iload rfl rfl ?_
      refine w_pushI rfl ?_
      refine w_pushI rfl ?_
      refine w_callSi (As := [_, _, _]) (le := [some _, some _, some _]) rfl rfl (Nat.le_of_ble_eq_true rfl) (Nat.le_of_ble_eq_true rfl) rfl ?_
      refine w_iload rfl rfl ?_
      refine w_iload rfl rfl ?_
      refine w_icmp_ltZ (b := 0) rfl rfl (by decide) (fun h3 => ?_) (fun h3 => ?_)
      · refine w_pushI rfl ?_
        refine w_iret rfl (Or.inr ⟨rfl, by decide⟩) ?_
        show gW _ _ _ _ _ _ _ _ _ _
        refine w_if_ne rfl (fun h => absurd (by decide) h) (fun _ => ?_)
        refine w_pushI rfl ?_
        refine w_iret rfl (Or.inl rfl) ?_
        exact congrArg (fun v => some (Value.int v)) (show ((-1) : Int32) = f1_place a b by exact ite_eq_of (fun hc => absurd hc (by omega)) (fun _ => rfl))
      · refine w_iload rfl rfl ?_
        refine w_iload rfl rfl ?_
        refine w_icmp_gtZ (b := 99) rfl rfl (by decide) (fun h4 => ?_) (fun h4 => ?_)
        · refine w_pushI rfl ?_
          refine w_iret rfl (Or.inr ⟨rfl, by decide⟩) ?_
          show gW _ _ _ _ _ _ _ _ _ _
          refine w_if_ne rfl (fun h => absurd (by decide) h) (fun _ => ?_)
          refine w_pushI rfl ?_
          refine w_iret rfl (Or.inl rfl) ?_
          exact congrArg (fun v => some (Value.int v)) (show ((-1) : Int32) = f1_place a b by exact ite_eq_of (fun hc => absurd hc (by omega)) (fun _ => rfl))
        · refine w_pushI rfl ?_
          refine w_goto rfl ?_
          refine w_iret rfl (Or.inr ⟨rfl, by decide⟩) ?_
          show gW _ _ _ _ _ _ _ _ _ _
          refine w_if_ne rfl (fun _ => ?_) (fun h => absurd h (by decide))
          refine w_aload rfl rfl ?_
          refine w_getIv (x := 0) rfl rfl (hI _ fmI_50_1 (by decide)) ?_
          refine w_pushI rfl ?_
          refine w_icmp_ne rfl (fun _ => ?_) (fun h => absurd h (by decide))
          refine w_aload rfl rfl ?_
          refine w_iload rfl rfl ?_
          refine w_pushI rfl ?_
          refine w_irem rfl (by decide) ?_
          refine w_iload rfl rfl ?_
          refine w_pushI rfl ?_
          refine w_idiv rfl (by decide) ?_
          refine w_iload rfl rfl ?_
          refine w_callVi (As := [_, _, _]) (le := [some _, some _, some _, some _]) rfl rfl rfl (Nat.le_of_ble_eq_true rfl) (Nat.le_of_ble_eq_true rfl) rfl ?_
          refine w_aload rfl rfl ?_
          refine w_getR (r := 51) rfl rfl (hR _ fmR_50_2 (by decide)) ?_
          refine w_aload rfl rfl ?_
          refine w_getIv (x := 0) rfl rfl (hI _ fmI_50_1 (by decide)) ?_
          refine w_iload rfl rfl ?_
          refine w_iastv (j := 0) rfl rfl (by decide) (by unfold vp_in; decide) rfl ?_
          refine w_aload rfl rfl ?_
          refine w_getR (r := 52) rfl rfl (hR _ fmR_50_3 (by decide)) ?_
          refine w_aload rfl rfl ?_
          refine w_getIv (x := 0) rfl rfl ((gU_n (by decide)).trans (hI _ fmI_50_1 (by decide))) ?_
          refine w_iload rfl rfl ?_
          refine w_iastv (j := 0) rfl rfl (by decide) (by unfold vp_in; decide) rfl ?_
          refine w_aload rfl rfl ?_
          refine w_getR (r := 53) rfl rfl (hR _ fmR_50_4 (by decide)) ?_
          refine w_aload rfl rfl ?_
          refine w_getIv (x := 0) rfl rfl ((gU_n (by decide)).trans ((gU_n (by decide)).trans (hI _ fmI_50_1 (by decide)))) ?_
          refine w_iload rfl rfl ?_
          refine w_iastv (j := 0) rfl rfl (by decide) (by unfold vp_in; decide) rfl ?_
          refine w_aload rfl rfl ?_
          refine w_getR (r := 54) rfl rfl (hR _ fmR_50_5 (by decide)) ?_
          refine w_aload rfl rfl ?_
          refine w_getIv (x := 0) rfl rfl ((gU_n (by decide)).trans ((gU_n (by decide)).trans ((gU_n (by decide)).trans (hI _ fmI_50_1 (by decide))))) ?_
          refine w_pushI rfl ?_
          refine w_iastv (j := 0) rfl rfl (by decide) (by unfold vp_in; decide) rfl ?_
          refine w_aload rfl rfl ?_
          refine w_getR (r := 55) rfl rfl (hR _ fmR_50_6 (by decide)) ?_
          refine w_aload rfl rfl ?_
          refine w_getIv (x := 0) rfl rfl ((gU_n (by decide)).trans ((gU_n (by decide)).trans ((gU_n (by decide)).trans ((gU_n (by decide)).trans (hI _ fmI_50_1 (by decide)))))) ?_
          refine w_pushI rfl ?_
          refine w_iastv (j := 0) rfl rfl (by decide) (by unfold vp_in; decide) rfl ?_
          refine w_aload rfl rfl ?_
          refine w_getR (r := 75) rfl rfl (hR _ fmR_50_42 (by decide)) ?_
          refine w_aload rfl rfl ?_
          refine w_getIv (x := 0) rfl rfl ((gU_n (by decide)).trans ((gU_n (by decide)).trans ((gU_n (by decide)).trans ((gU_n (by decide)).trans ((gU_n (by decide)).trans (hI _ fmI_50_1 (by decide))))))) ?_
          refine w_pushI rfl ?_
          refine w_iastv (j := 0) rfl rfl (by decide) (by unfold vp_in; decide) rfl ?_
          refine w_aload rfl rfl ?_
          refine w_getR (r := 76) rfl rfl (hR _ fmR_50_43 (by decide)) ?_
          refine w_aload rfl rfl ?_
          refine w_getIv (x := 0) rfl rfl ((gU_n (by decide)).trans ((gU_n (by decide)).trans ((gU_n (by decide)).trans ((gU_n (by decide)).trans ((gU_n (by decide)).trans ((gU_n (by decide)).trans (hI _ fmI_50_1 (by decide)))))))) ?_
          refine w_pushI rfl ?_
          refine w_iastv (j := 0) rfl rfl (by decide) (by unfold vp_in; decide) rfl ?_
          refine w_aload rfl rfl ?_
          refine w_dup rfl rfl ?_
          refine w_getIv (x := 0) rfl rfl ((gU_n (by decide)).trans ((gU_n (by decide)).trans ((gU_n (by decide)).trans ((gU_n (by decide)).trans ((gU_n (by decide)).trans ((gU_n (by decide)).trans ((gU_n (by decide)).trans (hI _ fmI_50_1 (by decide))))))))) ?_
          refine w_pushI rfl ?_
          refine w_iaddv (z := 1) rfl (by decide) ?_
          refine w_putI rfl rfl ?_
          refine w_aload rfl rfl ?_
          refine w_getIv (x := 1) rfl rfl (gU_e) ?_
          refine w_pushI rfl ?_
          refine w_isubv (z := 0) rfl (by decide) ?_
          refine w_iret rfl (Or.inl rfl) ?_
          show gW _ _ _ _ _ _ _ _ _ _
          refine w_iret rfl (Or.inl rfl) ?_
          exact congrArg (fun v => some (Value.int v)) (show (0 : Int32) = f1_place a b by exact ite_eq_of (fun _ => rfl) (fun hc => absurd (by omega) hc))
set_option maxHeartbeats 40000000 in
set_option maxRecDepth 100000 in
theorem a1_places {X : Nat × (Nat → Int32)} {d : Nat} {I : Nat → Nat → Int32} {L : Nat → Nat → Int64} {R : Nat → Nat → Option Nat} (hI : ∀ q ∈ gFlI, I q.1 q.2.1 = q.2.2) (hL : ∀ q ∈ gFlL, L q.1 q.2.1 = q.2.2) (hR : ∀ q ∈ gFlR, R q.1 q.2.1 = some q.2.2) (a : Int32) (b : Int32) (c : Int32) : gW X (d + 12) 102 0 0 0 (gEn 102 [.ref 0, .int a, .int b, .int c]) [] (gK 87, I, L, R) (fun r σ => r = some (.int (f1_places a b c)) ∧ gFr σ I L R) := by
  show gW _ _ _ _ _ _ [some (.ref 0), some (.int a), some (.int b), some (.int c), none, none] _ _ _
  refine w_iload rfl rfl ?_
  refine w_callSi (As := [_]) (le := [some _]) rfl rfl (Nat.le_of_ble_eq_true rfl) (Nat.le_of_ble_eq_true rfl) rfl ?_
  refine w_iload rfl rfl ?_
  refine w_if_ltZ rfl rfl (fun h1 => ?_) (fun h1 => ?_)
  · refine w_pushI rfl ?_
    refine w_iret rfl (Or.inr ⟨rfl, by decide⟩) ?_
    show gW _ _ _ _ _ _ _ _ _ _
    refine w_if_eq rfl (fun _ => ?_) (fun h => absurd (by decide) h)
    refine w_pushI rfl ?_
    refine w_iret rfl (Or.inl rfl) ?_
    exact ⟨congrArg (fun v => some (Value.int v)) (show ((-1) : Int32) = f1_places a b c by exact ite_eq_of (fun hc => absurd hc (by omega)) (fun _ => rfl)), rfl, fun x hx => rfl, fun x hx => rfl, fun x hx => rfl⟩
  · refine w_iload rfl rfl ?_
    refine w_pushI rfl ?_
    refine w_icmp_geZ (b := 6) rfl rfl (by decide) (fun h2 => ?_) (fun h2 => ?_)
    · refine w_pushI rfl ?_
      refine w_iret rfl (Or.inr ⟨rfl, by decide⟩) ?_
      show gW _ _ _ _ _ _ _ _ _ _
      refine w_if_eq rfl (fun _ => ?_) (fun h => absurd (by decide) h)
      refine w_pushI rfl ?_
      refine w_iret rfl (Or.inl rfl) ?_
      exact ⟨congrArg (fun v => some (Value.int v)) (show ((-1) : Int32) = f1_places a b c by exact ite_eq_of (fun hc => absurd hc (by omega)) (fun _ => rfl)), rfl, fun x hx => rfl, fun x hx => rfl, fun x hx => rfl⟩
    · refine w_pushI rfl ?_
      refine w_goto rfl ?_
      refine w_iret rfl (Or.inr ⟨rfl, by decide⟩) ?_
      show gW _ _ _ _ _ _ _ _ _ _
      refine w_if_eq rfl (fun h => absurd h (by decide)) (fun _ => ?_)
      refine w_iload rfl rfl ?_
      refine w_pushI rfl ?_
      refine w_icmp_ltZ (b := 1) rfl rfl (by decide) (fun h3 => ?_) (fun h3 => ?_)
      · refine w_pushI rfl ?_
        refine w_iret rfl (Or.inl rfl) ?_
        exact ⟨congrArg (fun v => some (Value.int v)) (show ((-1) : Int32) = f1_places a b c by exact ite_eq_of (fun hc => absurd hc (by omega)) (fun _ => rfl)), rfl, fun x hx => rfl, fun x hx => rfl, fun x hx => rfl⟩
      · refine w_iload rfl rfl ?_
        refine w_pushI rfl ?_
        refine w_icmp_leZ (b := 8) rfl rfl (by decide) (fun h4 => ?_) (fun h4 => ?_)
        · refine w_aload rfl rfl ?_
          refine w_getR (r := 37) rfl rfl (hR _ fmR_0_11) ?_
          refine w_iload rfl rfl ?_
          rcases (show a.toInt = 0 ∨ a.toInt = 1 ∨ a.toInt = 2 ∨ a.toInt = 3 ∨ a.toInt = 4 ∨ a.toInt = 5 by omega) with hs5 | hs5 | hs5 | hs5 | hs5 | hs5
          · obtain rfl : a = 0 := i_is hs5 (by decide)
            refine w_aaldv (j := 0) (r := 38) rfl rfl (by decide) (by unfold vp_in; decide) (hR _ fmR_37_0) ?_
            refine w_astore rfl rfl ?_
            refine w_aload rfl rfl ?_
            refine w_callVi (As := []) (le := [some _]) rfl rfl rfl (Nat.le_of_ble_eq_true rfl) (Nat.le_of_ble_eq_true rfl) rfl ?_
            refine w_aload rfl rfl ?_
            refine w_getIv (x := 0) rfl rfl (hI _ fmI_38_0) ?_
            refine w_if_ne rfl (fun h => absurd (by decide) h) (fun _ => ?_)
            refine w_pushI rfl ?_
            refine w_goto rfl ?_
            refine w_iret rfl (Or.inr ⟨rfl, by decide⟩) ?_
            show gW _ _ _ _ _ _ _ _ _ _
            refine w_if_eq rfl (fun h => absurd h (by decide)) (fun _ => ?_)
            refine w_pushI rfl ?_
            refine w_iret rfl (Or.inl rfl) ?_
            exact ⟨congrArg (fun v => some (Value.int v)) (show (0 : Int32) = f1_places (0) b c by have e0 : (0 : Int32).toInt = 0 := rfl; exact ite_eq_of (fun _ => rfl) (fun hc => absurd (by omega) hc)), rfl, fun x hx => rfl, fun x hx => rfl, fun x hx => rfl⟩
          · obtain rfl : a = 1 := i_is hs5 (by decide)
            refine w_aaldv (j := 1) (r := 40) rfl rfl (by decide) (by unfold vp_in; decide) (hR _ fmR_37_1) ?_
            refine w_astore rfl rfl ?_
            refine w_aload rfl rfl ?_
            refine w_callVi (As := []) (le := [some _]) rfl rfl rfl (Nat.le_of_ble_eq_true rfl) (Nat.le_of_ble_eq_true rfl) rfl ?_
            refine w_aload rfl rfl ?_
            refine w_getIv (x := 0) rfl rfl (hI _ fmI_40_0) ?_
            refine w_if_ne rfl (fun h => absurd (by decide) h) (fun _ => ?_)
            refine w_pushI rfl ?_
            refine w_goto rfl ?_
            refine w_iret rfl (Or.inr ⟨rfl, by decide⟩) ?_
            show gW _ _ _ _ _ _ _ _ _ _
            refine w_if_eq rfl (fun h => absurd h (by decide)) (fun _ => ?_)
            refine w_pushI rfl ?_
            refine w_iret rfl (Or.inl rfl) ?_
            exact ⟨congrArg (fun v => some (Value.int v)) (show (0 : Int32) = f1_places (1) b c by have e0 : (1 : Int32).toInt = 1 := rfl; exact ite_eq_of (fun _ => rfl) (fun hc => absurd (by omega) hc)), rfl, fun x hx => rfl, fun x hx => rfl, fun x hx => rfl⟩
          · obtain rfl : a = 2 := i_is hs5 (by decide)
            refine w_aaldv (j := 2) (r := 42) rfl rfl (by decide) (by unfold vp_in; decide) (hR _ fmR_37_2) ?_
            refine w_astore rfl rfl ?_
            refine w_aload rfl rfl ?_
            refine w_callVi (As := []) (le := [some _]) rfl rfl rfl (Nat.le_of_ble_eq_true rfl) (Nat.le_of_ble_eq_true rfl) rfl ?_
            refine w_aload rfl rfl ?_
            refine w_getIv (x := 0) rfl rfl (hI _ fmI_42_0) ?_
            refine w_if_ne rfl (fun h => absurd (by decide) h) (fun _ => ?_)
            refine w_pushI rfl ?_
            refine w_goto rfl ?_
            refine w_iret rfl (Or.inr ⟨rfl, by decide⟩) ?_
            show gW _ _ _ _ _ _ _ _ _ _
            refine w_if_eq rfl (fun h => absurd h (by decide)) (fun _ => ?_)
            refine w_pushI rfl ?_
            refine w_iret rfl (Or.inl rfl) ?_
            exact ⟨congrArg (fun v => some (Value.int v)) (show (0 : Int32) = f1_places (2) b c by have e0 : (2 : Int32).toInt = 2 := rfl; exact ite_eq_of (fun _ => rfl) (fun hc => absurd (by omega) hc)), rfl, fun x hx => rfl, fun x hx => rfl, fun x hx => rfl⟩
          · obtain rfl : a = 3 := i_is hs5 (by decide)
            refine w_aaldv (j := 3) (r := 44) rfl rfl (by decide) (by unfold vp_in; decide) (hR _ fmR_37_3) ?_
            refine w_astore rfl rfl ?_
            refine w_aload rfl rfl ?_
            refine w_callVi (As := []) (le := [some _]) rfl rfl rfl (Nat.le_of_ble_eq_true rfl) (Nat.le_of_ble_eq_true rfl) rfl ?_
            refine w_aload rfl rfl ?_
            refine w_getIv (x := 0) rfl rfl (hI _ fmI_44_0) ?_
            refine w_if_ne rfl (fun h => absurd (by decide) h) (fun _ => ?_)
            refine w_pushI rfl ?_
            refine w_goto rfl ?_
            refine w_iret rfl (Or.inr ⟨rfl, by decide⟩) ?_
            show gW _ _ _ _ _ _ _ _ _ _
            refine w_if_eq rfl (fun h => absurd h (by decide)) (fun _ => ?_)
            refine w_pushI rfl ?_
            refine w_iret rfl (Or.inl rfl) ?_
            exact ⟨congrArg (fun v => some (Value.int v)) (show (0 : Int32) = f1_places (3) b c by have e0 : (3 : Int32).toInt = 3 := rfl; exact ite_eq_of (fun _ => rfl) (fun hc => absurd (by omega) hc)), rfl, fun x hx => rfl, fun x hx => rfl, fun x hx => rfl⟩
          · obtain rfl : a = 4 := i_is hs5 (by decide)
            refine w_aaldv (j := 4) (r := 46) rfl rfl (by decide) (by unfold vp_in; decide) (hR _ fmR_37_4) ?_
            refine w_astore rfl rfl ?_
            refine w_aload rfl rfl ?_
            refine w_callVi (As := []) (le := [some _]) rfl rfl rfl (Nat.le_of_ble_eq_true rfl) (Nat.le_of_ble_eq_true rfl) rfl ?_
            refine w_aload rfl rfl ?_
            refine w_getIv (x := 0) rfl rfl (hI _ fmI_46_0) ?_
            refine w_if_ne rfl (fun h => absurd (by decide) h) (fun _ => ?_)
            refine w_pushI rfl ?_
            refine w_goto rfl ?_
            refine w_iret rfl (Or.inr ⟨rfl, by decide⟩) ?_
            show gW _ _ _ _ _ _ _ _ _ _
            refine w_if_eq rfl (fun h => absurd h (by decide)) (fun _ => ?_)
            refine w_pushI rfl ?_
            refine w_iret rfl (Or.inl rfl) ?_
            exact ⟨congrArg (fun v => some (Value.int v)) (show (0 : Int32) = f1_places (4) b c by have e0 : (4 : Int32).toInt = 4 := rfl; exact ite_eq_of (fun _ => rfl) (fun hc => absurd (by omega) hc)), rfl, fun x hx => rfl, fun x hx => rfl, fun x hx => rfl⟩
          · obtain rfl : a = 5 := i_is hs5 (by decide)
            refine w_aaldv (j := 5) (r := 48) rfl rfl (by decide) (by unfold vp_in; decide) (hR _ fmR_37_5) ?_
            refine w_astore rfl rfl ?_
            refine w_aload rfl rfl ?_
            refine w_callVi (As := []) (le := [some _]) rfl rfl rfl (Nat.le_of_ble_eq_true rfl) (Nat.le_of_ble_eq_true rfl) rfl ?_
            refine w_aload rfl rfl ?_
            refine w_getIv (x := 0) rfl rfl (hI _ fmI_48_0) ?_
            refine w_if_ne rfl (fun h => absurd (by decide) h) (fun _ => ?_)
            refine w_pushI rfl ?_
            refine w_goto rfl ?_
            refine w_iret rfl (Or.inr ⟨rfl, by decide⟩) ?_
            show gW _ _ _ _ _ _ _ _ _ _
            refine w_if_eq rfl (fun h => absurd h (by decide)) (fun _ => ?_)
            refine w_pushI rfl ?_
            refine w_iret rfl (Or.inl rfl) ?_
            exact ⟨congrArg (fun v => some (Value.int v)) (show (0 : Int32) = f1_places (5) b c by have e0 : (5 : Int32).toInt = 5 := rfl; exact ite_eq_of (fun _ => rfl) (fun hc => absurd (by omega) hc)), rfl, fun x hx => rfl, fun x hx => rfl, fun x hx => rfl⟩
        · refine w_pushI rfl ?_
          refine w_iret rfl (Or.inl rfl) ?_
          exact ⟨congrArg (fun v => some (Value.int v)) (show ((-1) : Int32) = f1_places a b c by exact ite_eq_of (fun hc => absurd hc (by omega)) (fun _ => rfl)), rfl, fun x hx => rfl, fun x hx => rfl, fun x hx => rfl⟩
set_option maxHeartbeats 40000000 in
set_option maxRecDepth 100000 in
theorem a2_places {X : Nat × (Nat → Int32)} {d : Nat} {I : Nat → Nat → Int32} {L : Nat → Nat → Int64} {R : Nat → Nat → Option Nat} (hI : ∀ q ∈ gFlI, 50 ≤ q.1 → I q.1 q.2.1 = q.2.2) (hL : ∀ q ∈ gFlL, 50 ≤ q.1 → L q.1 q.2.1 = q.2.2) (hR : ∀ q ∈ gFlR, 50 ≤ q.1 → R q.1 q.2.1 = some q.2.2) (a : Int32) (b : Int32) (c : Int32) : gW X (d + 12) 154 0 0 0 (gEn 154 [.ref 50, .int a, .int b, .int c]) [] (gK 87, I, L, R) (fun r _ => r = some (.int (f1_places a b c))) := by
  show gW _ _ _ _ _ _ [some (.ref 50), some (.int a), some (.int b), some (.int c), none, none, none, none] _ _ _
  refine w_iload rfl rfl ?_
  refine w_callSi (As := [_]) (le := [some _]) rfl rfl (Nat.le_of_ble_eq_true rfl) (Nat.le_of_ble_eq_true rfl) rfl ?_
  refine w_iload rfl rfl ?_
  refine w_pushI rfl ?_
  refine w_pushI rfl ?_
  refine w_callSi (As := [_, _, _]) (le := [some _, some _, some _]) rfl rfl (Nat.le_of_ble_eq_true rfl) (Nat.le_of_ble_eq_true rfl) rfl ?_
  refine w_iload rfl rfl ?_
  refine w_iload rfl rfl ?_
  refine w_icmp_ltZ (b := 0) rfl rfl (by decide) (fun h1 => ?_) (fun h1 => ?_)
  · refine w_pushI rfl ?_
    refine w_iret rfl (Or.inr ⟨rfl, by decide⟩) ?_
    show gW _ _ _ _ _ _ _ _ _ _
    refine w_iret rfl (Or.inr ⟨rfl, by decide⟩) ?_
    show gW _ _ _ _ _ _ _ _ _ _
    refine w_if_eq rfl (fun _ => ?_) (fun h => absurd (by decide) h)
    refine w_pushI rfl ?_
    refine w_iret rfl (Or.inl rfl) ?_
    exact congrArg (fun v => some (Value.int v)) (show ((-1) : Int32) = f1_places a b c by exact ite_eq_of (fun hc => absurd hc (by omega)) (fun _ => rfl))
  · refine w_iload rfl rfl ?_
    refine w_iload rfl rfl ?_
    refine w_icmp_gtZ (b := 5) rfl rfl (by decide) (fun h2 => ?_) (fun h2 => ?_)
    · refine w_pushI rfl ?_
      refine w_iret rfl (Or.inr ⟨rfl, by decide⟩) ?_
      show gW _ _ _ _ _ _ _ _ _ _
      refine w_iret rfl (Or.inr ⟨rfl, by decide⟩) ?_
      show gW _ _ _ _ _ _ _ _ _ _
      refine w_if_eq rfl (fun _ => ?_) (fun h => absurd (by decide) h)
      refine w_pushI rfl ?_
      refine w_iret rfl (Or.inl rfl) ?_
      exact congrArg (fun v => some (Value.int v)) (show ((-1) : Int32) = f1_places a b c by exact ite_eq_of (fun hc => absurd hc (by omega)) (fun _ => rfl))
    · refine w_pushI rfl ?_
      refine w_goto rfl ?_
      refine w_iret rfl (Or.inr ⟨rfl, by decide⟩) ?_
      show gW _ _ _ _ _ _ _ _ _ _
      refine w_iret rfl (Or.inr ⟨rfl, by decide⟩) ?_
      show gW _ _ _ _ _ _ _ _ _ _
      refine w_if_eq rfl (fun h => absurd h (by decide)) (fun _ => ?_)
      refine w_iload rfl rfl ?_
      refine w_pushI rfl ?_
      refine w_pushI rfl ?_
      refine w_callSi (As := [_, _, _]) (le := [some _, some _, some _]) rfl rfl (Nat.le_of_ble_eq_true rfl) (Nat.le_of_ble_eq_true rfl) rfl ?_
      refine w_iload rfl rfl ?_
      refine w_iload rfl rfl ?_
      refine w_icmp_ltZ (b := 1) rfl rfl (by decide) (fun h3 => ?_) (fun h3 => ?_)
      · refine w_pushI rfl ?_
        refine w_iret rfl (Or.inr ⟨rfl, by decide⟩) ?_
        show gW _ _ _ _ _ _ _ _ _ _
        refine w_if_ne rfl (fun h => absurd (by decide) h) (fun _ => ?_)
        refine w_pushI rfl ?_
        refine w_iret rfl (Or.inl rfl) ?_
        exact congrArg (fun v => some (Value.int v)) (show ((-1) : Int32) = f1_places a b c by exact ite_eq_of (fun hc => absurd hc (by omega)) (fun _ => rfl))
      · refine w_iload rfl rfl ?_
        refine w_iload rfl rfl ?_
        refine w_icmp_gtZ (b := 8) rfl rfl (by decide) (fun h4 => ?_) (fun h4 => ?_)
        · refine w_pushI rfl ?_
          refine w_iret rfl (Or.inr ⟨rfl, by decide⟩) ?_
          show gW _ _ _ _ _ _ _ _ _ _
          refine w_if_ne rfl (fun h => absurd (by decide) h) (fun _ => ?_)
          refine w_pushI rfl ?_
          refine w_iret rfl (Or.inl rfl) ?_
          exact congrArg (fun v => some (Value.int v)) (show ((-1) : Int32) = f1_places a b c by exact ite_eq_of (fun hc => absurd hc (by omega)) (fun _ => rfl))
        · refine w_pushI rfl ?_
          refine w_goto rfl ?_
          refine w_iret rfl (Or.inr ⟨rfl, by decide⟩) ?_
          show gW _ _ _ _ _ _ _ _ _ _
          refine w_if_ne rfl (fun _ => ?_) (fun h => absurd h (by decide))
          refine w_aload rfl rfl ?_
          refine w_getR (r := 83) rfl rfl (hR _ fmR_50_58 (by decide)) ?_
          refine w_iload rfl rfl ?_
          rcases (show a.toInt = 0 ∨ a.toInt = 1 ∨ a.toInt = 2 ∨ a.toInt = 3 ∨ a.toInt = 4 ∨ a.toInt = 5 by omega) with hs5 | hs5 | hs5 | hs5 | hs5 | hs5
          · obtain rfl : a = 0 := i_is hs5 (by decide)
            refine w_ialdv (j := 0) (x := (-1)) rfl rfl (by decide) (by unfold vp_in; decide) (hI _ fmI_83_0 (by decide)) ?_
            refine w_pushI rfl ?_
            refine w_icmp_eq rfl (fun _ => ?_) (fun h => absurd (by decide) h)
            refine w_aload rfl rfl ?_
            refine w_getR (r := 83) rfl rfl (hR _ fmR_50_58 (by decide)) ?_
            refine w_iload rfl rfl ?_
            refine w_topv (z := 0) (by decide) ?_
            refine w_ialdv (j := 0) (x := (-1)) rfl rfl (by decide) (by unfold vp_in; decide) (hI _ fmI_83_0 (by decide)) ?_
            refine w_pushI rfl ?_
            refine w_icmp_ne rfl (fun h => absurd (by decide) h) (fun _ => ?_)
            refine w_pushI rfl ?_
            refine w_iret rfl (Or.inl rfl) ?_
            exact congrArg (fun v => some (Value.int v)) (show (0 : Int32) = f1_places (0) b c by have e0 : (0 : Int32).toInt = 0 := rfl; exact ite_eq_of (fun _ => rfl) (fun hc => absurd (by omega) hc))
          · obtain rfl : a = 1 := i_is hs5 (by decide)
            refine w_ialdv (j := 1) (x := (-1)) rfl rfl (by decide) (by unfold vp_in; decide) (hI _ fmI_83_1 (by decide)) ?_
            refine w_pushI rfl ?_
            refine w_icmp_eq rfl (fun _ => ?_) (fun h => absurd (by decide) h)
            refine w_aload rfl rfl ?_
            refine w_getR (r := 83) rfl rfl (hR _ fmR_50_58 (by decide)) ?_
            refine w_iload rfl rfl ?_
            refine w_topv (z := 1) (by decide) ?_
            refine w_ialdv (j := 1) (x := (-1)) rfl rfl (by decide) (by unfold vp_in; decide) (hI _ fmI_83_1 (by decide)) ?_
            refine w_pushI rfl ?_
            refine w_icmp_ne rfl (fun h => absurd (by decide) h) (fun _ => ?_)
            refine w_pushI rfl ?_
            refine w_iret rfl (Or.inl rfl) ?_
            exact congrArg (fun v => some (Value.int v)) (show (0 : Int32) = f1_places (1) b c by have e0 : (1 : Int32).toInt = 1 := rfl; exact ite_eq_of (fun _ => rfl) (fun hc => absurd (by omega) hc))
          · obtain rfl : a = 2 := i_is hs5 (by decide)
            refine w_ialdv (j := 2) (x := (-1)) rfl rfl (by decide) (by unfold vp_in; decide) (hI _ fmI_83_2 (by decide)) ?_
            refine w_pushI rfl ?_
            refine w_icmp_eq rfl (fun _ => ?_) (fun h => absurd (by decide) h)
            refine w_aload rfl rfl ?_
            refine w_getR (r := 83) rfl rfl (hR _ fmR_50_58 (by decide)) ?_
            refine w_iload rfl rfl ?_
            refine w_topv (z := 2) (by decide) ?_
            refine w_ialdv (j := 2) (x := (-1)) rfl rfl (by decide) (by unfold vp_in; decide) (hI _ fmI_83_2 (by decide)) ?_
            refine w_pushI rfl ?_
            refine w_icmp_ne rfl (fun h => absurd (by decide) h) (fun _ => ?_)
            refine w_pushI rfl ?_
            refine w_iret rfl (Or.inl rfl) ?_
            exact congrArg (fun v => some (Value.int v)) (show (0 : Int32) = f1_places (2) b c by have e0 : (2 : Int32).toInt = 2 := rfl; exact ite_eq_of (fun _ => rfl) (fun hc => absurd (by omega) hc))
          · obtain rfl : a = 3 := i_is hs5 (by decide)
            refine w_ialdv (j := 3) (x := (-1)) rfl rfl (by decide) (by unfold vp_in; decide) (hI _ fmI_83_3 (by decide)) ?_
            refine w_pushI rfl ?_
            refine w_icmp_eq rfl (fun _ => ?_) (fun h => absurd (by decide) h)
            refine w_aload rfl rfl ?_
            refine w_getR (r := 83) rfl rfl (hR _ fmR_50_58 (by decide)) ?_
            refine w_iload rfl rfl ?_
            refine w_topv (z := 3) (by decide) ?_
            refine w_ialdv (j := 3) (x := (-1)) rfl rfl (by decide) (by unfold vp_in; decide) (hI _ fmI_83_3 (by decide)) ?_
            refine w_pushI rfl ?_
            refine w_icmp_ne rfl (fun h => absurd (by decide) h) (fun _ => ?_)
            refine w_pushI rfl ?_
            refine w_iret rfl (Or.inl rfl) ?_
            exact congrArg (fun v => some (Value.int v)) (show (0 : Int32) = f1_places (3) b c by have e0 : (3 : Int32).toInt = 3 := rfl; exact ite_eq_of (fun _ => rfl) (fun hc => absurd (by omega) hc))
          · obtain rfl : a = 4 := i_is hs5 (by decide)
            refine w_ialdv (j := 4) (x := (-1)) rfl rfl (by decide) (by unfold vp_in; decide) (hI _ fmI_83_4 (by decide)) ?_
            refine w_pushI rfl ?_
            refine w_icmp_eq rfl (fun _ => ?_) (fun h => absurd (by decide) h)
            refine w_aload rfl rfl ?_
            refine w_getR (r := 83) rfl rfl (hR _ fmR_50_58 (by decide)) ?_
            refine w_iload rfl rfl ?_
            refine w_topv (z := 4) (by decide) ?_
            refine w_ialdv (j := 4) (x := (-1)) rfl rfl (by decide) (by unfold vp_in; decide) (hI _ fmI_83_4 (by decide)) ?_
            refine w_pushI rfl ?_
            refine w_icmp_ne rfl (fun h => absurd (by decide) h) (fun _ => ?_)
            refine w_pushI rfl ?_
            refine w_iret rfl (Or.inl rfl) ?_
            exact congrArg (fun v => some (Value.int v)) (show (0 : Int32) = f1_places (4) b c by have e0 : (4 : Int32).toInt = 4 := rfl; exact ite_eq_of (fun _ => rfl) (fun hc => absurd (by omega) hc))
          · obtain rfl : a = 5 := i_is hs5 (by decide)
            refine w_ialdv (j := 5) (x := (-1)) rfl rfl (by decide) (by unfold vp_in; decide) (hI _ fmI_83_5 (by decide)) ?_
            refine w_pushI rfl ?_
            refine w_icmp_eq rfl (fun _ => ?_) (fun h => absurd (by decide) h)
            refine w_aload rfl rfl ?_
            refine w_getR (r := 83) rfl rfl (hR _ fmR_50_58 (by decide)) ?_
            refine w_iload rfl rfl ?_
            refine w_topv (z := 5) (by decide) ?_
            refine w_ialdv (j := 5) (x := (-1)) rfl rfl (by decide) (by unfold vp_in; decide) (hI _ fmI_83_5 (by decide)) ?_
            refine w_pushI rfl ?_
            refine w_icmp_ne rfl (fun h => absurd (by decide) h) (fun _ => ?_)
            refine w_pushI rfl ?_
            refine w_iret rfl (Or.inl rfl) ?_
            exact congrArg (fun v => some (Value.int v)) (show (0 : Int32) = f1_places (5) b c by have e0 : (5 : Int32).toInt = 5 := rfl; exact ite_eq_of (fun _ => rfl) (fun hc => absurd (by omega) hc))
set_option maxHeartbeats 40000000 in
set_option maxRecDepth 100000 in
theorem a1_mend {X : Nat × (Nat → Int32)} {d : Nat} {I : Nat → Nat → Int32} {L : Nat → Nat → Int64} {R : Nat → Nat → Option Nat} (hI : ∀ q ∈ gFlI, I q.1 q.2.1 = q.2.2) (hL : ∀ q ∈ gFlL, L q.1 q.2.1 = q.2.2) (hR : ∀ q ∈ gFlR, R q.1 q.2.1 = some q.2.2) (a : Int32) (b : Int32) (c : Int32) : gW X (d + 12) 104 0 0 0 (gEn 104 [.ref 0, .int a, .int b, .int c]) [] (gK 87, I, L, R) (fun r σ => r = some (.int (f1_mend a b c)) ∧ gFr σ I L R) := by
  show gW _ _ _ _ _ _ [some (.ref 0), some (.int a), some (.int b), some (.int c), none] _ _ _
  refine w_aload rfl rfl ?_
  refine w_getR (r := 8) rfl rfl (hR _ fmR_0_1) ?_
  refine w_iload rfl rfl ?_
  refine w_iload rfl rfl ?_
  refine w_callVi (As := [_, _]) (le := [some _, some _, some _]) rfl rfl rfl (Nat.le_of_ble_eq_true rfl) (Nat.le_of_ble_eq_true rfl) rfl ?_
  refine w_aload rfl rfl ?_
  refine w_iload rfl rfl ?_
  refine w_iload rfl rfl ?_
  refine w_callVi (As := [_, _]) (le := [some _, some _, some _]) rfl rfl rfl (Nat.le_of_ble_eq_true rfl) (Nat.le_of_ble_eq_true rfl) rfl ?_
  refine w_iload rfl rfl ?_
  refine w_if_ltZ rfl rfl (fun h1 => ?_) (fun h1 => ?_)
  · refine w_pushI rfl ?_
    refine w_iret rfl (Or.inl rfl) ?_
    show gW _ _ _ _ _ _ _ _ _ _
    refine w_if_lt rfl (fun _ => ?_) (fun h => absurd (by decide) h)
    refine w_pushI rfl ?_
    refine w_iret rfl (Or.inr ⟨rfl, by decide⟩) ?_
    show gW _ _ _ _ _ _ _ _ _ _
    refine w_if_eq rfl (fun _ => ?_) (fun h => absurd (by decide) h)
    refine w_pushI rfl ?_
    refine w_iret rfl (Or.inl rfl) ?_
    exact ⟨congrArg (fun v => some (Value.int v)) (show ((-1) : Int32) = f1_mend a b c by exact ite_eq_of (fun hc => ite_eq_of (fun hc => absurd hc (by omega)) (fun _ => ite_eq_of (fun hc => absurd hc (by omega)) (fun _ => ite_eq_of (fun hc => absurd hc (by omega)) (fun _ => ite_eq_of (fun hc => absurd hc (by omega)) (fun _ => ite_eq_of (fun hc => absurd hc (by omega)) (fun _ => ite_eq_of (fun hc => absurd hc (by omega)) (fun _ => ite_eq_of (fun hc => absurd hc (by omega)) (fun _ => ite_eq_of (fun hc => absurd hc (by omega)) (fun _ => ite_eq_of (fun hc => absurd hc (by omega)) (fun _ => rfl)))))))))) (fun hc => rfl)), rfl, fun x hx => rfl, fun x hx => rfl, fun x hx => rfl⟩
  · refine w_iload rfl rfl ?_
    refine w_pushI rfl ?_
    refine w_icmp_ltZ (b := 14) rfl rfl (by decide) (fun h2 => ?_) (fun h2 => ?_)
    · refine w_iload rfl rfl ?_
      refine w_pushI rfl ?_
      refine w_icmp_geZ (b := 5) rfl rfl (by decide) (fun h3 => ?_) (fun h3 => ?_)
      · refine w_iload rfl rfl ?_
        refine w_if_neZ rfl rfl (fun h4 => ?_) (fun h4 => ?_)
        · refine w_pushI rfl ?_
          refine w_iret rfl (Or.inl rfl) ?_
          show gW _ _ _ _ _ _ _ _ _ _
          refine w_if_lt rfl (fun _ => ?_) (fun h => absurd (by decide) h)
          refine w_pushI rfl ?_
          refine w_iret rfl (Or.inr ⟨rfl, by decide⟩) ?_
          show gW _ _ _ _ _ _ _ _ _ _
          refine w_if_eq rfl (fun _ => ?_) (fun h => absurd (by decide) h)
          refine w_pushI rfl ?_
          refine w_iret rfl (Or.inl rfl) ?_
          exact ⟨congrArg (fun v => some (Value.int v)) (show ((-1) : Int32) = f1_mend a b c by exact ite_eq_of (fun hc => ite_eq_of (fun hc => ite_eq_of (fun hc => (by exfalso; omega)) (fun hc => rfl)) (fun hc => ite_eq_of (fun hc => ite_eq_of (fun hc => (by exfalso; omega)) (fun hc => rfl)) (fun hc => ite_eq_of (fun hc => ite_eq_of (fun hc => (by exfalso; omega)) (fun hc => rfl)) (fun hc => ite_eq_of (fun hc => ite_eq_of (fun hc => (by exfalso; omega)) (fun hc => rfl)) (fun hc => ite_eq_of (fun hc => ite_eq_of (fun hc => (by exfalso; omega)) (fun hc => rfl)) (fun hc => ite_eq_of (fun hc => ite_eq_of (fun hc => (by exfalso; omega)) (fun hc => rfl)) (fun hc => ite_eq_of (fun hc => ite_eq_of (fun hc => (by exfalso; omega)) (fun hc => rfl)) (fun hc => ite_eq_of (fun hc => ite_eq_of (fun hc => (by exfalso; omega)) (fun hc => rfl)) (fun hc => ite_eq_of (fun hc => ite_eq_of (fun hc => (by exfalso; omega)) (fun hc => rfl)) (fun hc => rfl)))))))))) (fun hc => rfl)), rfl, fun x hx => rfl, fun x hx => rfl, fun x hx => rfl⟩
        · obtain rfl : a = 0 := i_is (show a.toInt = 0 by omega) (by decide)
          refine w_pushI rfl ?_
          refine w_iload rfl rfl ?_
          refine w_iadd rfl ?_
          refine w_goto rfl ?_
          refine w_iret rfl (Or.inl rfl) ?_
          show gW _ _ _ _ _ _ _ _ _ _
          rcases (show b.toInt = 5 ∨ b.toInt = 6 ∨ b.toInt = 7 ∨ b.toInt = 8 ∨ b.toInt = 9 ∨ b.toInt = 10 ∨ b.toInt = 11 ∨ b.toInt = 12 ∨ b.toInt = 13 by omega) with hs6 | hs6 | hs6 | hs6 | hs6 | hs6 | hs6 | hs6 | hs6
          · obtain rfl : b = 5 := i_is hs6 (by decide)
            refine w_if_lt rfl (fun h => absurd h (by decide)) (fun _ => ?_)
            refine w_pushI rfl ?_
            refine w_goto rfl ?_
            refine w_iret rfl (Or.inr ⟨rfl, by decide⟩) ?_
            show gW _ _ _ _ _ _ _ _ _ _
            refine w_if_eq rfl (fun h => absurd h (by decide)) (fun _ => ?_)
            refine w_iload rfl rfl ?_
            refine w_topv (z := 5) (by decide) ?_
            refine w_iload rfl rfl ?_
            refine w_callSi (As := [_, _]) (le := [some _, some _]) rfl rfl (Nat.le_of_ble_eq_true rfl) (Nat.le_of_ble_eq_true rfl) rfl ?_
            refine w_iload rfl rfl ?_
            refine w_if_lt rfl (fun h => absurd h (by decide)) (fun _ => ?_)
            refine w_iload rfl rfl ?_
            refine w_pushI rfl ?_
            refine w_icmp_ge rfl (fun h => absurd h (by decide)) (fun _ => ?_)
            refine w_iload rfl rfl ?_
            refine w_getS rfl ?_
            refine w_iload rfl rfl ?_
            refine w_saldv (n := 14) (q := 5) (x := 0) rfl (by decide) rfl (by unfold vp_in; decide) (by decide) rfl ?_
            refine w_icmp_ltZ (b := 0) rfl rfl (by decide) (fun h7 => ?_) (fun h7 => ?_)
            · refine w_pushI rfl ?_
              refine w_iret rfl (Or.inr ⟨rfl, by decide⟩) ?_
              show gW _ _ _ _ _ _ _ _ _ _
              refine w_if_ne rfl (fun h => absurd (by decide) h) (fun _ => ?_)
              refine w_pushI rfl ?_
              refine w_iret rfl (Or.inl rfl) ?_
              exact ⟨congrArg (fun v => some (Value.int v)) (show ((-1) : Int32) = f1_mend (0) (5) c by have e0 : (0 : Int32).toInt = 0 := rfl; have e1 : (5 : Int32).toInt = 5 := rfl; exact ite_eq_of (fun _ => ite_eq_of (fun _ => ite_eq_of (fun hc => absurd hc (by omega)) (fun _ => rfl)) (fun hc => absurd (by omega) hc)) (fun hc => absurd (by omega) hc)), rfl, fun x hx => rfl, fun x hx => rfl, fun x hx => rfl⟩
            · refine w_iload rfl rfl ?_
              refine w_getS rfl ?_
              refine w_iload rfl rfl ?_
              refine w_saldv (n := 14) (q := 5) (x := 99) rfl (by decide) rfl (by unfold vp_in; decide) (by decide) rfl ?_
              refine w_icmp_gtZ (b := 99) rfl rfl (by decide) (fun h8 => ?_) (fun h8 => ?_)
              · refine w_pushI rfl ?_
                refine w_iret rfl (Or.inr ⟨rfl, by decide⟩) ?_
                show gW _ _ _ _ _ _ _ _ _ _
                refine w_if_ne rfl (fun h => absurd (by decide) h) (fun _ => ?_)
                refine w_pushI rfl ?_
                refine w_iret rfl (Or.inl rfl) ?_
                exact ⟨congrArg (fun v => some (Value.int v)) (show ((-1) : Int32) = f1_mend (0) (5) c by have e0 : (0 : Int32).toInt = 0 := rfl; have e1 : (5 : Int32).toInt = 5 := rfl; exact ite_eq_of (fun _ => ite_eq_of (fun _ => ite_eq_of (fun hc => absurd hc (by omega)) (fun _ => rfl)) (fun hc => absurd (by omega) hc)) (fun hc => absurd (by omega) hc)), rfl, fun x hx => rfl, fun x hx => rfl, fun x hx => rfl⟩
              · refine w_pushI rfl ?_
                refine w_goto rfl ?_
                refine w_iret rfl (Or.inr ⟨rfl, by decide⟩) ?_
                show gW _ _ _ _ _ _ _ _ _ _
                refine w_if_ne rfl (fun _ => ?_) (fun h => absurd h (by decide))
                refine w_aload rfl rfl ?_
                refine w_getR (r := 8) rfl rfl (hR _ fmR_0_1) ?_
                refine w_iload rfl rfl ?_
                refine w_topv (z := 0) (by decide) ?_
                refine w_iload rfl rfl ?_
                refine w_topv (z := 5) (by decide) ?_
                refine w_callVi (As := [_, _]) (le := [some _, some _, some _, none]) rfl rfl rfl (Nat.le_of_ble_eq_true rfl) (Nat.le_of_ble_eq_true rfl) rfl ?_
                refine w_aload rfl rfl ?_
                refine w_iload rfl rfl ?_
                refine w_iload rfl rfl ?_
                refine w_callVi (As := [_, _]) (le := [some _, some _, some _]) rfl rfl rfl (Nat.le_of_ble_eq_true rfl) (Nat.le_of_ble_eq_true rfl) rfl ?_
                refine w_iload rfl rfl ?_
                refine w_if_lt rfl (fun h => absurd h (by decide)) (fun _ => ?_)
                refine w_iload rfl rfl ?_
                refine w_pushI rfl ?_
                refine w_icmp_lt rfl (fun _ => ?_) (fun h => absurd (by decide) h)
                refine w_iload rfl rfl ?_
                refine w_pushI rfl ?_
                refine w_icmp_ge rfl (fun _ => ?_) (fun h => absurd (by decide) h)
                refine w_iload rfl rfl ?_
                refine w_if_ne rfl (fun h => absurd (by decide) h) (fun _ => ?_)
                refine w_pushI rfl ?_
                refine w_iload rfl rfl ?_
                refine w_iaddv (z := 45) rfl (by decide) ?_
                refine w_goto rfl ?_
                refine w_iret rfl (Or.inl rfl) ?_
                show gW _ _ _ _ _ _ _ _ _ _
                refine w_istore rfl rfl ?_
                refine w_iload rfl rfl ?_
                refine w_if_ge rfl (fun _ => ?_) (fun h => absurd (by decide) h)
                refine w_aload rfl rfl ?_
                refine w_getR (r := 9) rfl rfl (hR _ fmR_8_1) ?_
                refine w_iload rfl rfl ?_
                refine w_ialdv (j := 45) (x := 0) rfl rfl (by decide) (by unfold vp_in; decide) (hI _ fmI_9_45) ?_
                refine w_iret rfl (Or.inl rfl) ?_
                show gW _ _ _ _ _ _ _ _ _ _
                refine w_istore rfl rfl ?_
                refine w_iload rfl rfl ?_
                refine w_iload rfl rfl ?_
                refine w_icmp_eqZ (a := 0) rfl (by decide) rfl (fun h9 => ?_) (fun h9 => ?_)
                · obtain rfl : c = 0 := i_is (show c.toInt = 0 by omega) (by decide)
                  refine w_iload rfl rfl ?_
                  refine w_iret rfl (Or.inl rfl) ?_
                  exact ⟨congrArg (fun v => some (Value.int v)) (show (0 : Int32) = f1_mend (0) (5) (0) by have e0 : (0 : Int32).toInt = 0 := rfl; have e1 : (5 : Int32).toInt = 5 := rfl; have e2 : (0 : Int32).toInt = 0 := rfl; exact ite_eq_of (fun _ => ite_eq_of (fun _ => ite_eq_of (fun _ => rfl) (fun hc => absurd (by omega) hc)) (fun hc => absurd (by omega) hc)) (fun hc => absurd (by omega) hc)), rfl, fun x hx => rfl, fun x hx => rfl, fun x hx => rfl⟩
                · refine w_aload rfl rfl ?_
                  refine w_getR (r := 29) rfl rfl (hR _ fmR_0_9) ?_
                  refine w_iload rfl rfl ?_
                  refine w_topv (z := 0) (by decide) ?_
                  refine w_iload rfl rfl ?_
                  refine w_topv (z := 5) (by decide) ?_
                  refine w_iload rfl rfl ?_
                  refine w_iload rfl rfl ?_
                  refine w_callVi (As := [_, _, _, _]) (le := [some _, some _, some _, some _, some _]) rfl rfl rfl (Nat.le_of_ble_eq_true rfl) (Nat.le_of_ble_eq_true rfl) rfl ?_
                  refine w_aload rfl rfl ?_
                  refine w_getIv (x := 0) rfl rfl (hI _ fmI_29_5) ?_
                  refine w_pushI rfl ?_
                  refine w_icmp_lt rfl (fun _ => ?_) (fun h => absurd (by decide) h)
                  refine w_aload rfl rfl ?_
                  refine w_getR (r := 30) rfl rfl (hR _ fmR_29_1) ?_
                  refine w_aload rfl rfl ?_
                  refine w_getIv (x := 0) rfl rfl (hI _ fmI_29_5) ?_
                  refine w_iload rfl rfl ?_
                  refine w_iastv (j := 0) rfl rfl (by decide) (by unfold vp_in; decide) rfl ?_
                  refine w_aload rfl rfl ?_
                  refine w_getR (r := 31) rfl rfl (hR _ fmR_29_2) ?_
                  refine w_aload rfl rfl ?_
                  refine w_getIv (x := 0) rfl rfl ((gU_n (by decide)).trans (hI _ fmI_29_5)) ?_
                  refine w_iload rfl rfl ?_
                  refine w_iastv (j := 0) rfl rfl (by decide) (by unfold vp_in; decide) rfl ?_
                  refine w_aload rfl rfl ?_
                  refine w_getR (r := 32) rfl rfl (hR _ fmR_29_3) ?_
                  refine w_aload rfl rfl ?_
                  refine w_getIv (x := 0) rfl rfl ((gU_n (by decide)).trans ((gU_n (by decide)).trans (hI _ fmI_29_5))) ?_
                  refine w_iload rfl rfl ?_
                  refine w_iastv (j := 0) rfl rfl (by decide) (by unfold vp_in; decide) rfl ?_
                  refine w_aload rfl rfl ?_
                  refine w_getR (r := 33) rfl rfl (hR _ fmR_29_4) ?_
                  refine w_aload rfl rfl ?_
                  refine w_getIv (x := 0) rfl rfl ((gU_n (by decide)).trans ((gU_n (by decide)).trans ((gU_n (by decide)).trans (hI _ fmI_29_5)))) ?_
                  refine w_iload rfl rfl ?_
                  refine w_iastv (j := 0) rfl rfl (by decide) (by unfold vp_in; decide) rfl ?_
                  refine w_aload rfl rfl ?_
                  refine w_dup rfl rfl ?_
                  refine w_getIv (x := 0) rfl rfl ((gU_n (by decide)).trans ((gU_n (by decide)).trans ((gU_n (by decide)).trans ((gU_n (by decide)).trans (hI _ fmI_29_5))))) ?_
                  refine w_pushI rfl ?_
                  refine w_iaddv (z := 1) rfl (by decide) ?_
                  refine w_putI rfl rfl ?_
                  refine w_aload rfl rfl ?_
                  refine w_aload rfl rfl ?_
                  refine w_getIv (x := 1) rfl rfl (gU_e) ?_
                  refine w_putI rfl rfl ?_
                  refine w_vret rfl rfl ?_
                  show gW _ _ _ _ _ _ _ _ _ _
                  refine w_aload rfl rfl ?_
                  refine w_getR (r := 8) rfl rfl (hR _ fmR_0_1) ?_
                  refine w_iload rfl rfl ?_
                  refine w_topv (z := 0) (by decide) ?_
                  refine w_iload rfl rfl ?_
                  refine w_topv (z := 5) (by decide) ?_
                  refine w_iload rfl rfl ?_
                  refine w_callVi (As := [_, _, _]) (le := [some _, some _, some _, some _, none]) rfl rfl rfl (Nat.le_of_ble_eq_true rfl) (Nat.le_of_ble_eq_true rfl) rfl ?_
                  refine w_aload rfl rfl ?_
                  refine w_iload rfl rfl ?_
                  refine w_iload rfl rfl ?_
                  refine w_callVi (As := [_, _]) (le := [some _, some _, some _]) rfl rfl rfl (Nat.le_of_ble_eq_true rfl) (Nat.le_of_ble_eq_true rfl) rfl ?_
                  refine w_iload rfl rfl ?_
                  refine w_if_lt rfl (fun h => absurd h (by decide)) (fun _ => ?_)
                  refine w_iload rfl rfl ?_
                  refine w_pushI rfl ?_
                  refine w_icmp_lt rfl (fun _ => ?_) (fun h => absurd (by decide) h)
                  refine w_iload rfl rfl ?_
                  refine w_pushI rfl ?_
                  refine w_icmp_ge rfl (fun _ => ?_) (fun h => absurd (by decide) h)
                  refine w_iload rfl rfl ?_
                  refine w_if_ne rfl (fun h => absurd (by decide) h) (fun _ => ?_)
                  refine w_pushI rfl ?_
                  refine w_iload rfl rfl ?_
                  refine w_iaddv (z := 45) rfl (by decide) ?_
                  refine w_goto rfl ?_
                  refine w_iret rfl (Or.inl rfl) ?_
                  show gW _ _ _ _ _ _ _ _ _ _
                  refine w_istore rfl rfl ?_
                  refine w_iload rfl rfl ?_
                  refine w_if_lt rfl (fun h => absurd h (by decide)) (fun _ => ?_)
                  refine w_aload rfl rfl ?_
                  refine w_getR (r := 9) rfl rfl (hR _ fmR_8_1) ?_
                  refine w_iload rfl rfl ?_
                  refine w_iload rfl rfl ?_
                  refine w_iastv (j := 45) rfl rfl (by decide) (by unfold vp_in; decide) rfl ?_
                  refine w_vret rfl rfl ?_
                  show gW _ _ _ _ _ _ _ _ _ _
                  refine w_iload rfl rfl ?_
                  refine w_iret rfl (Or.inl rfl) ?_
                  exact ⟨congrArg (fun v => some (Value.int v)) (show (0 : Int32) = f1_mend (0) (5) c by have e0 : (0 : Int32).toInt = 0 := rfl; have e1 : (5 : Int32).toInt = 5 := rfl; exact ite_eq_of (fun _ => ite_eq_of (fun _ => ite_eq_of (fun _ => rfl) (fun hc => absurd (by omega) hc)) (fun hc => absurd (by omega) hc)) (fun hc => absurd (by omega) hc)), rfl, fun x hx => (gU_o (by omega)).trans ((gU_o (by omega)).trans ((gU_o (by omega)).trans ((gU_o (by omega)).trans ((gU_o (by omega)).trans ((gU_o (by omega)).trans (gU_o (by omega))))))), fun x hx => rfl, fun x hx => rfl⟩
          · obtain rfl : b = 6 := i_is hs6 (by decide)
            refine w_if_lt rfl (fun h => absurd h (by decide)) (fun _ => ?_)
            refine w_pushI rfl ?_
            refine w_goto rfl ?_
            refine w_iret rfl (Or.inr ⟨rfl, by decide⟩) ?_
            show gW _ _ _ _ _ _ _ _ _ _
            refine w_if_eq rfl (fun h => absurd h (by decide)) (fun _ => ?_)
            refine w_iload rfl rfl ?_
            refine w_topv (z := 6) (by decide) ?_
            refine w_iload rfl rfl ?_
            refine w_callSi (As := [_, _]) (le := [some _, some _]) rfl rfl (Nat.le_of_ble_eq_true rfl) (Nat.le_of_ble_eq_true rfl) rfl ?_
            refine w_iload rfl rfl ?_
            refine w_if_lt rfl (fun h => absurd h (by decide)) (fun _ => ?_)
            refine w_iload rfl rfl ?_
            refine w_pushI rfl ?_
            refine w_icmp_ge rfl (fun h => absurd h (by decide)) (fun _ => ?_)
            refine w_iload rfl rfl ?_
            refine w_getS rfl ?_
            refine w_iload rfl rfl ?_
            refine w_saldv (n := 14) (q := 6) (x := 0) rfl (by decide) rfl (by unfold vp_in; decide) (by decide) rfl ?_
            refine w_icmp_ltZ (b := 0) rfl rfl (by decide) (fun h7 => ?_) (fun h7 => ?_)
            · refine w_pushI rfl ?_
              refine w_iret rfl (Or.inr ⟨rfl, by decide⟩) ?_
              show gW _ _ _ _ _ _ _ _ _ _
              refine w_if_ne rfl (fun h => absurd (by decide) h) (fun _ => ?_)
              refine w_pushI rfl ?_
              refine w_iret rfl (Or.inl rfl) ?_
              exact ⟨congrArg (fun v => some (Value.int v)) (show ((-1) : Int32) = f1_mend (0) (6) c by have e0 : (0 : Int32).toInt = 0 := rfl; have e1 : (6 : Int32).toInt = 6 := rfl; exact ite_eq_of (fun _ => ite_eq_of (fun hc => absurd hc (by omega)) (fun _ => ite_eq_of (fun _ => ite_eq_of (fun hc => absurd hc (by omega)) (fun _ => rfl)) (fun hc => absurd (by omega) hc))) (fun hc => absurd (by omega) hc)), rfl, fun x hx => rfl, fun x hx => rfl, fun x hx => rfl⟩
            · refine w_iload rfl rfl ?_
              refine w_getS rfl ?_
              refine w_iload rfl rfl ?_
              refine w_saldv (n := 14) (q := 6) (x := 999) rfl (by decide) rfl (by unfold vp_in; decide) (by decide) rfl ?_
              refine w_icmp_gtZ (b := 999) rfl rfl (by decide) (fun h8 => ?_) (fun h8 => ?_)
              · refine w_pushI rfl ?_
                refine w_iret rfl (Or.inr ⟨rfl, by decide⟩) ?_
                show gW _ _ _ _ _ _ _ _ _ _
                refine w_if_ne rfl (fun h => absurd (by decide) h) (fun _ => ?_)
                refine w_pushI rfl ?_
                refine w_iret rfl (Or.inl rfl) ?_
                exact ⟨congrArg (fun v => some (Value.int v)) (show ((-1) : Int32) = f1_mend (0) (6) c by have e0 : (0 : Int32).toInt = 0 := rfl; have e1 : (6 : Int32).toInt = 6 := rfl; exact ite_eq_of (fun _ => ite_eq_of (fun hc => absurd hc (by omega)) (fun _ => ite_eq_of (fun _ => ite_eq_of (fun hc => absurd hc (by omega)) (fun _ => rfl)) (fun hc => absurd (by omega) hc))) (fun hc => absurd (by omega) hc)), rfl, fun x hx => rfl, fun x hx => rfl, fun x hx => rfl⟩
              · refine w_pushI rfl ?_
                refine w_goto rfl ?_
                refine w_iret rfl (Or.inr ⟨rfl, by decide⟩) ?_
                show gW _ _ _ _ _ _ _ _ _ _
                refine w_if_ne rfl (fun _ => ?_) (fun h => absurd h (by decide))
                refine w_aload rfl rfl ?_
                refine w_getR (r := 8) rfl rfl (hR _ fmR_0_1) ?_
                refine w_iload rfl rfl ?_
                refine w_topv (z := 0) (by decide) ?_
                refine w_iload rfl rfl ?_
                refine w_topv (z := 6) (by decide) ?_
                refine w_callVi (As := [_, _]) (le := [some _, some _, some _, none]) rfl rfl rfl (Nat.le_of_ble_eq_true rfl) (Nat.le_of_ble_eq_true rfl) rfl ?_
                refine w_aload rfl rfl ?_
                refine w_iload rfl rfl ?_
                refine w_iload rfl rfl ?_
                refine w_callVi (As := [_, _]) (le := [some _, some _, some _]) rfl rfl rfl (Nat.le_of_ble_eq_true rfl) (Nat.le_of_ble_eq_true rfl) rfl ?_
                refine w_iload rfl rfl ?_
                refine w_if_lt rfl (fun h => absurd h (by decide)) (fun _ => ?_)
                refine w_iload rfl rfl ?_
                refine w_pushI rfl ?_
                refine w_icmp_lt rfl (fun _ => ?_) (fun h => absurd (by decide) h)
                refine w_iload rfl rfl ?_
                refine w_pushI rfl ?_
                refine w_icmp_ge rfl (fun _ => ?_) (fun h => absurd (by decide) h)
                refine w_iload rfl rfl ?_
                refine w_if_ne rfl (fun h => absurd (by decide) h) (fun _ => ?_)
                refine w_pushI rfl ?_
                refine w_iload rfl rfl ?_
                refine w_iaddv (z := 46) rfl (by decide) ?_
                refine w_goto rfl ?_
                refine w_iret rfl (Or.inl rfl) ?_
                show gW _ _ _ _ _ _ _ _ _ _
                refine w_istore rfl rfl ?_
                refine w_iload rfl rfl ?_
                refine w_if_ge rfl (fun _ => ?_) (fun h => absurd (by decide) h)
                refine w_aload rfl rfl ?_
                refine w_getR (r := 9) rfl rfl (hR _ fmR_8_1) ?_
                refine w_iload rfl rfl ?_
                refine w_ialdv (j := 46) (x := 180) rfl rfl (by decide) (by unfold vp_in; decide) (hI _ fmI_9_46) ?_
                refine w_iret rfl (Or.inl rfl) ?_
                show gW _ _ _ _ _ _ _ _ _ _
                refine w_istore rfl rfl ?_
                refine w_iload rfl rfl ?_
                refine w_iload rfl rfl ?_
                refine w_icmp_eqZ (a := 180) rfl (by decide) rfl (fun h9 => ?_) (fun h9 => ?_)
                · obtain rfl : c = 180 := i_is (show c.toInt = 180 by omega) (by decide)
                  refine w_iload rfl rfl ?_
                  refine w_iret rfl (Or.inl rfl) ?_
                  exact ⟨congrArg (fun v => some (Value.int v)) (show (180 : Int32) = f1_mend (0) (6) (180) by have e0 : (0 : Int32).toInt = 0 := rfl; have e1 : (6 : Int32).toInt = 6 := rfl; have e2 : (180 : Int32).toInt = 180 := rfl; exact ite_eq_of (fun _ => ite_eq_of (fun hc => absurd hc (by omega)) (fun _ => ite_eq_of (fun _ => ite_eq_of (fun _ => rfl) (fun hc => absurd (by omega) hc)) (fun hc => absurd (by omega) hc))) (fun hc => absurd (by omega) hc)), rfl, fun x hx => rfl, fun x hx => rfl, fun x hx => rfl⟩
                · refine w_aload rfl rfl ?_
                  refine w_getR (r := 29) rfl rfl (hR _ fmR_0_9) ?_
                  refine w_iload rfl rfl ?_
                  refine w_topv (z := 0) (by decide) ?_
                  refine w_iload rfl rfl ?_
                  refine w_topv (z := 6) (by decide) ?_
                  refine w_iload rfl rfl ?_
                  refine w_iload rfl rfl ?_
                  refine w_callVi (As := [_, _, _, _]) (le := [some _, some _, some _, some _, some _]) rfl rfl rfl (Nat.le_of_ble_eq_true rfl) (Nat.le_of_ble_eq_true rfl) rfl ?_
                  refine w_aload rfl rfl ?_
                  refine w_getIv (x := 0) rfl rfl (hI _ fmI_29_5) ?_
                  refine w_pushI rfl ?_
                  refine w_icmp_lt rfl (fun _ => ?_) (fun h => absurd (by decide) h)
                  refine w_aload rfl rfl ?_
                  refine w_getR (r := 30) rfl rfl (hR _ fmR_29_1) ?_
                  refine w_aload rfl rfl ?_
                  refine w_getIv (x := 0) rfl rfl (hI _ fmI_29_5) ?_
                  refine w_iload rfl rfl ?_
                  refine w_iastv (j := 0) rfl rfl (by decide) (by unfold vp_in; decide) rfl ?_
                  refine w_aload rfl rfl ?_
                  refine w_getR (r := 31) rfl rfl (hR _ fmR_29_2) ?_
                  refine w_aload rfl rfl ?_
                  refine w_getIv (x := 0) rfl rfl ((gU_n (by decide)).trans (hI _ fmI_29_5)) ?_
                  refine w_iload rfl rfl ?_
                  refine w_iastv (j := 0) rfl rfl (by decide) (by unfold vp_in; decide) rfl ?_
                  refine w_aload rfl rfl ?_
                  refine w_getR (r := 32) rfl rfl (hR _ fmR_29_3) ?_
                  refine w_aload rfl rfl ?_
                  refine w_getIv (x := 0) rfl rfl ((gU_n (by decide)).trans ((gU_n (by decide)).trans (hI _ fmI_29_5))) ?_
                  refine w_iload rfl rfl ?_
                  refine w_iastv (j := 0) rfl rfl (by decide) (by unfold vp_in; decide) rfl ?_
                  refine w_aload rfl rfl ?_
                  refine w_getR (r := 33) rfl rfl (hR _ fmR_29_4) ?_
                  refine w_aload rfl rfl ?_
                  refine w_getIv (x := 0) rfl rfl ((gU_n (by decide)).trans ((gU_n (by decide)).trans ((gU_n (by decide)).trans (hI _ fmI_29_5)))) ?_
                  refine w_iload rfl rfl ?_
                  refine w_iastv (j := 0) rfl rfl (by decide) (by unfold vp_in; decide) rfl ?_
                  refine w_aload rfl rfl ?_
                  refine w_dup rfl rfl ?_
                  refine w_getIv (x := 0) rfl rfl ((gU_n (by decide)).trans ((gU_n (by decide)).trans ((gU_n (by decide)).trans ((gU_n (by decide)).trans (hI _ fmI_29_5))))) ?_
                  refine w_pushI rfl ?_
                  refine w_iaddv (z := 1) rfl (by decide) ?_
                  refine w_putI rfl rfl ?_
                  refine w_aload rfl rfl ?_
                  refine w_aload rfl rfl ?_
                  refine w_getIv (x := 1) rfl rfl (gU_e) ?_
                  refine w_putI rfl rfl ?_
                  refine w_vret rfl rfl ?_
                  show gW _ _ _ _ _ _ _ _ _ _
                  refine w_aload rfl rfl ?_
                  refine w_getR (r := 8) rfl rfl (hR _ fmR_0_1) ?_
                  refine w_iload rfl rfl ?_
                  refine w_topv (z := 0) (by decide) ?_
                  refine w_iload rfl rfl ?_
                  refine w_topv (z := 6) (by decide) ?_
                  refine w_iload rfl rfl ?_
                  refine w_callVi (As := [_, _, _]) (le := [some _, some _, some _, some _, none]) rfl rfl rfl (Nat.le_of_ble_eq_true rfl) (Nat.le_of_ble_eq_true rfl) rfl ?_
                  refine w_aload rfl rfl ?_
                  refine w_iload rfl rfl ?_
                  refine w_iload rfl rfl ?_
                  refine w_callVi (As := [_, _]) (le := [some _, some _, some _]) rfl rfl rfl (Nat.le_of_ble_eq_true rfl) (Nat.le_of_ble_eq_true rfl) rfl ?_
                  refine w_iload rfl rfl ?_
                  refine w_if_lt rfl (fun h => absurd h (by decide)) (fun _ => ?_)
                  refine w_iload rfl rfl ?_
                  refine w_pushI rfl ?_
                  refine w_icmp_lt rfl (fun _ => ?_) (fun h => absurd (by decide) h)
                  refine w_iload rfl rfl ?_
                  refine w_pushI rfl ?_
                  refine w_icmp_ge rfl (fun _ => ?_) (fun h => absurd (by decide) h)
                  refine w_iload rfl rfl ?_
                  refine w_if_ne rfl (fun h => absurd (by decide) h) (fun _ => ?_)
                  refine w_pushI rfl ?_
                  refine w_iload rfl rfl ?_
                  refine w_iaddv (z := 46) rfl (by decide) ?_
                  refine w_goto rfl ?_
                  refine w_iret rfl (Or.inl rfl) ?_
                  show gW _ _ _ _ _ _ _ _ _ _
                  refine w_istore rfl rfl ?_
                  refine w_iload rfl rfl ?_
                  refine w_if_lt rfl (fun h => absurd h (by decide)) (fun _ => ?_)
                  refine w_aload rfl rfl ?_
                  refine w_getR (r := 9) rfl rfl (hR _ fmR_8_1) ?_
                  refine w_iload rfl rfl ?_
                  refine w_iload rfl rfl ?_
                  refine w_iastv (j := 46) rfl rfl (by decide) (by unfold vp_in; decide) rfl ?_
                  refine w_vret rfl rfl ?_
                  show gW _ _ _ _ _ _ _ _ _ _
                  refine w_iload rfl rfl ?_
                  refine w_iret rfl (Or.inl rfl) ?_
                  exact ⟨congrArg (fun v => some (Value.int v)) (show (180 : Int32) = f1_mend (0) (6) c by have e0 : (0 : Int32).toInt = 0 := rfl; have e1 : (6 : Int32).toInt = 6 := rfl; exact ite_eq_of (fun _ => ite_eq_of (fun hc => absurd hc (by omega)) (fun _ => ite_eq_of (fun _ => ite_eq_of (fun _ => rfl) (fun hc => absurd (by omega) hc)) (fun hc => absurd (by omega) hc))) (fun hc => absurd (by omega) hc)), rfl, fun x hx => (gU_o (by omega)).trans ((gU_o (by omega)).trans ((gU_o (by omega)).trans ((gU_o (by omega)).trans ((gU_o (by omega)).trans ((gU_o (by omega)).trans (gU_o (by omega))))))), fun x hx => rfl, fun x hx => rfl⟩
          · obtain rfl : b = 7 := i_is hs6 (by decide)
            refine w_if_lt rfl (fun h => absurd h (by decide)) (fun _ => ?_)
            refine w_pushI rfl ?_
            refine w_goto rfl ?_
            refine w_iret rfl (Or.inr ⟨rfl, by decide⟩) ?_
            show gW _ _ _ _ _ _ _ _ _ _
            refine w_if_eq rfl (fun h => absurd h (by decide)) (fun _ => ?_)
            refine w_iload rfl rfl ?_
            refine w_topv (z := 7) (by decide) ?_
            refine w_iload rfl rfl ?_
            refine w_callSi (As := [_, _]) (le := [some _, some _]) rfl rfl (Nat.le_of_ble_eq_true rfl) (Nat.le_of_ble_eq_true rfl) rfl ?_
            refine w_iload rfl rfl ?_
            refine w_if_lt rfl (fun h => absurd h (by decide)) (fun _ => ?_)
            refine w_iload rfl rfl ?_
            refine w_pushI rfl ?_
            refine w_icmp_ge rfl (fun h => absurd h (by decide)) (fun _ => ?_)
            refine w_iload rfl rfl ?_
            refine w_getS rfl ?_
            refine w_iload rfl rfl ?_
            refine w_saldv (n := 14) (q := 7) (x := 1) rfl (by decide) rfl (by unfold vp_in; decide) (by decide) rfl ?_
            refine w_icmp_ltZ (b := 1) rfl rfl (by decide) (fun h7 => ?_) (fun h7 => ?_)
            · refine w_pushI rfl ?_
              refine w_iret rfl (Or.inr ⟨rfl, by decide⟩) ?_
              show gW _ _ _ _ _ _ _ _ _ _
              refine w_if_ne rfl (fun h => absurd (by decide) h) (fun _ => ?_)
              refine w_pushI rfl ?_
              refine w_iret rfl (Or.inl rfl) ?_
              exact ⟨congrArg (fun v => some (Value.int v)) (show ((-1) : Int32) = f1_mend (0) (7) c by have e0 : (0 : Int32).toInt = 0 := rfl; have e1 : (7 : Int32).toInt = 7 := rfl; exact ite_eq_of (fun _ => ite_eq_of (fun hc => absurd hc (by omega)) (fun _ => ite_eq_of (fun hc => absurd hc (by omega)) (fun _ => ite_eq_of (fun _ => ite_eq_of (fun hc => absurd hc (by omega)) (fun _ => rfl)) (fun hc => absurd (by omega) hc)))) (fun hc => absurd (by omega) hc)), rfl, fun x hx => rfl, fun x hx => rfl, fun x hx => rfl⟩
            · refine w_iload rfl rfl ?_
              refine w_getS rfl ?_
              refine w_iload rfl rfl ?_
              refine w_saldv (n := 14) (q := 7) (x := 99) rfl (by decide) rfl (by unfold vp_in; decide) (by decide) rfl ?_
              refine w_icmp_gtZ (b := 99) rfl rfl (by decide) (fun h8 => ?_) (fun h8 => ?_)
              · refine w_pushI rfl ?_
                refine w_iret rfl (Or.inr ⟨rfl, by decide⟩) ?_
                show gW _ _ _ _ _ _ _ _ _ _
                refine w_if_ne rfl (fun h => absurd (by decide) h) (fun _ => ?_)
                refine w_pushI rfl ?_
                refine w_iret rfl (Or.inl rfl) ?_
                exact ⟨congrArg (fun v => some (Value.int v)) (show ((-1) : Int32) = f1_mend (0) (7) c by have e0 : (0 : Int32).toInt = 0 := rfl; have e1 : (7 : Int32).toInt = 7 := rfl; exact ite_eq_of (fun _ => ite_eq_of (fun hc => absurd hc (by omega)) (fun _ => ite_eq_of (fun hc => absurd hc (by omega)) (fun _ => ite_eq_of (fun _ => ite_eq_of (fun hc => absurd hc (by omega)) (fun _ => rfl)) (fun hc => absurd (by omega) hc)))) (fun hc => absurd (by omega) hc)), rfl, fun x hx => rfl, fun x hx => rfl, fun x hx => rfl⟩
              · refine w_pushI rfl ?_
                refine w_goto rfl ?_
                refine w_iret rfl (Or.inr ⟨rfl, by decide⟩) ?_
                show gW _ _ _ _ _ _ _ _ _ _
                refine w_if_ne rfl (fun _ => ?_) (fun h => absurd h (by decide))
                refine w_aload rfl rfl ?_
                refine w_getR (r := 8) rfl rfl (hR _ fmR_0_1) ?_
                refine w_iload rfl rfl ?_
                refine w_topv (z := 0) (by decide) ?_
                refine w_iload rfl rfl ?_
                refine w_topv (z := 7) (by decide) ?_
                refine w_callVi (As := [_, _]) (le := [some _, some _, some _, none]) rfl rfl rfl (Nat.le_of_ble_eq_true rfl) (Nat.le_of_ble_eq_true rfl) rfl ?_
                refine w_aload rfl rfl ?_
                refine w_iload rfl rfl ?_
                refine w_iload rfl rfl ?_
                refine w_callVi (As := [_, _]) (le := [some _, some _, some _]) rfl rfl rfl (Nat.le_of_ble_eq_true rfl) (Nat.le_of_ble_eq_true rfl) rfl ?_
                refine w_iload rfl rfl ?_
                refine w_if_lt rfl (fun h => absurd h (by decide)) (fun _ => ?_)
                refine w_iload rfl rfl ?_
                refine w_pushI rfl ?_
                refine w_icmp_lt rfl (fun _ => ?_) (fun h => absurd (by decide) h)
                refine w_iload rfl rfl ?_
                refine w_pushI rfl ?_
                refine w_icmp_ge rfl (fun _ => ?_) (fun h => absurd (by decide) h)
                refine w_iload rfl rfl ?_
                refine w_if_ne rfl (fun h => absurd (by decide) h) (fun _ => ?_)
                refine w_pushI rfl ?_
                refine w_iload rfl rfl ?_
                refine w_iaddv (z := 47) rfl (by decide) ?_
                refine w_goto rfl ?_
                refine w_iret rfl (Or.inl rfl) ?_
                show gW _ _ _ _ _ _ _ _ _ _
                refine w_istore rfl rfl ?_
                refine w_iload rfl rfl ?_
                refine w_if_ge rfl (fun _ => ?_) (fun h => absurd (by decide) h)
                refine w_aload rfl rfl ?_
                refine w_getR (r := 9) rfl rfl (hR _ fmR_8_1) ?_
                refine w_iload rfl rfl ?_
                refine w_ialdv (j := 47) (x := 20) rfl rfl (by decide) (by unfold vp_in; decide) (hI _ fmI_9_47) ?_
                refine w_iret rfl (Or.inl rfl) ?_
                show gW _ _ _ _ _ _ _ _ _ _
                refine w_istore rfl rfl ?_
                refine w_iload rfl rfl ?_
                refine w_iload rfl rfl ?_
                refine w_icmp_eqZ (a := 20) rfl (by decide) rfl (fun h9 => ?_) (fun h9 => ?_)
                · obtain rfl : c = 20 := i_is (show c.toInt = 20 by omega) (by decide)
                  refine w_iload rfl rfl ?_
                  refine w_iret rfl (Or.inl rfl) ?_
                  exact ⟨congrArg (fun v => some (Value.int v)) (show (20 : Int32) = f1_mend (0) (7) (20) by have e0 : (0 : Int32).toInt = 0 := rfl; have e1 : (7 : Int32).toInt = 7 := rfl; have e2 : (20 : Int32).toInt = 20 := rfl; exact ite_eq_of (fun _ => ite_eq_of (fun hc => absurd hc (by omega)) (fun _ => ite_eq_of (fun hc => absurd hc (by omega)) (fun _ => ite_eq_of (fun _ => ite_eq_of (fun _ => rfl) (fun hc => absurd (by omega) hc)) (fun hc => absurd (by omega) hc)))) (fun hc => absurd (by omega) hc)), rfl, fun x hx => rfl, fun x hx => rfl, fun x hx => rfl⟩
                · refine w_aload rfl rfl ?_
                  refine w_getR (r := 29) rfl rfl (hR _ fmR_0_9) ?_
                  refine w_iload rfl rfl ?_
                  refine w_topv (z := 0) (by decide) ?_
                  refine w_iload rfl rfl ?_
                  refine w_topv (z := 7) (by decide) ?_
                  refine w_iload rfl rfl ?_
                  refine w_iload rfl rfl ?_
                  refine w_callVi (As := [_, _, _, _]) (le := [some _, some _, some _, some _, some _]) rfl rfl rfl (Nat.le_of_ble_eq_true rfl) (Nat.le_of_ble_eq_true rfl) rfl ?_
                  refine w_aload rfl rfl ?_
                  refine w_getIv (x := 0) rfl rfl (hI _ fmI_29_5) ?_
                  refine w_pushI rfl ?_
                  refine w_icmp_lt rfl (fun _ => ?_) (fun h => absurd (by decide) h)
                  refine w_aload rfl rfl ?_
                  refine w_getR (r := 30) rfl rfl (hR _ fmR_29_1) ?_
                  refine w_aload rfl rfl ?_
                  refine w_getIv (x := 0) rfl rfl (hI _ fmI_29_5) ?_
                  refine w_iload rfl rfl ?_
                  refine w_iastv (j := 0) rfl rfl (by decide) (by unfold vp_in; decide) rfl ?_
                  refine w_aload rfl rfl ?_
                  refine w_getR (r := 31) rfl rfl (hR _ fmR_29_2) ?_
                  refine w_aload rfl rfl ?_
                  refine w_getIv (x := 0) rfl rfl ((gU_n (by decide)).trans (hI _ fmI_29_5)) ?_
                  refine w_iload rfl rfl ?_
                  refine w_iastv (j := 0) rfl rfl (by decide) (by unfold vp_in; decide) rfl ?_
                  refine w_aload rfl rfl ?_
                  refine w_getR (r := 32) rfl rfl (hR _ fmR_29_3) ?_
                  refine w_aload rfl rfl ?_
                  refine w_getIv (x := 0) rfl rfl ((gU_n (by decide)).trans ((gU_n (by decide)).trans (hI _ fmI_29_5))) ?_
                  refine w_iload rfl rfl ?_
                  refine w_iastv (j := 0) rfl rfl (by decide) (by unfold vp_in; decide) rfl ?_
                  refine w_aload rfl rfl ?_
                  refine w_getR (r := 33) rfl rfl (hR _ fmR_29_4) ?_
                  refine w_aload rfl rfl ?_
                  refine w_getIv (x := 0) rfl rfl ((gU_n (by decide)).trans ((gU_n (by decide)).trans ((gU_n (by decide)).trans (hI _ fmI_29_5)))) ?_
                  refine w_iload rfl rfl ?_
                  refine w_iastv (j := 0) rfl rfl (by decide) (by unfold vp_in; decide) rfl ?_
                  refine w_aload rfl rfl ?_
                  refine w_dup rfl rfl ?_
                  refine w_getIv (x := 0) rfl rfl ((gU_n (by decide)).trans ((gU_n (by decide)).trans ((gU_n (by decide)).trans ((gU_n (by decide)).trans (hI _ fmI_29_5))))) ?_
                  refine w_pushI rfl ?_
                  refine w_iaddv (z := 1) rfl (by decide) ?_
                  refine w_putI rfl rfl ?_
                  refine w_aload rfl rfl ?_
                  refine w_aload rfl rfl ?_
                  refine w_getIv (x := 1) rfl rfl (gU_e) ?_
                  refine w_putI rfl rfl ?_
                  refine w_vret rfl rfl ?_
                  show gW _ _ _ _ _ _ _ _ _ _
                  refine w_aload rfl rfl ?_
                  refine w_getR (r := 8) rfl rfl (hR _ fmR_0_1) ?_
                  refine w_iload rfl rfl ?_
                  refine w_topv (z := 0) (by decide) ?_
                  refine w_iload rfl rfl ?_
                  refine w_topv (z := 7) (by decide) ?_
                  refine w_iload rfl rfl ?_
                  refine w_callVi (As := [_, _, _]) (le := [some _, some _, some _, some _, none]) rfl rfl rfl (Nat.le_of_ble_eq_true rfl) (Nat.le_of_ble_eq_true rfl) rfl ?_
                  refine w_aload rfl rfl ?_
                  refine w_iload rfl rfl ?_
                  refine w_iload rfl rfl ?_
                  refine w_callVi (As := [_, _]) (le := [some _, some _, some _]) rfl rfl rfl (Nat.le_of_ble_eq_true rfl) (Nat.le_of_ble_eq_true rfl) rfl ?_
                  refine w_iload rfl rfl ?_
                  refine w_if_lt rfl (fun h => absurd h (by decide)) (fun _ => ?_)
                  refine w_iload rfl rfl ?_
                  refine w_pushI rfl ?_
                  refine w_icmp_lt rfl (fun _ => ?_) (fun h => absurd (by decide) h)
                  refine w_iload rfl rfl ?_
                  refine w_pushI rfl ?_
                  refine w_icmp_ge rfl (fun _ => ?_) (fun h => absurd (by decide) h)
                  refine w_iload rfl rfl ?_
                  refine w_if_ne rfl (fun h => absurd (by decide) h) (fun _ => ?_)
                  refine w_pushI rfl ?_
                  refine w_iload rfl rfl ?_
                  refine w_iaddv (z := 47) rfl (by decide) ?_
                  refine w_goto rfl ?_
                  refine w_iret rfl (Or.inl rfl) ?_
                  show gW _ _ _ _ _ _ _ _ _ _
                  refine w_istore rfl rfl ?_
                  refine w_iload rfl rfl ?_
                  refine w_if_lt rfl (fun h => absurd h (by decide)) (fun _ => ?_)
                  refine w_aload rfl rfl ?_
                  refine w_getR (r := 9) rfl rfl (hR _ fmR_8_1) ?_
                  refine w_iload rfl rfl ?_
                  refine w_iload rfl rfl ?_
                  refine w_iastv (j := 47) rfl rfl (by decide) (by unfold vp_in; decide) rfl ?_
                  refine w_vret rfl rfl ?_
                  show gW _ _ _ _ _ _ _ _ _ _
                  refine w_iload rfl rfl ?_
                  refine w_iret rfl (Or.inl rfl) ?_
                  exact ⟨congrArg (fun v => some (Value.int v)) (show (20 : Int32) = f1_mend (0) (7) c by have e0 : (0 : Int32).toInt = 0 := rfl; have e1 : (7 : Int32).toInt = 7 := rfl; exact ite_eq_of (fun _ => ite_eq_of (fun hc => absurd hc (by omega)) (fun _ => ite_eq_of (fun hc => absurd hc (by omega)) (fun _ => ite_eq_of (fun _ => ite_eq_of (fun _ => rfl) (fun hc => absurd (by omega) hc)) (fun hc => absurd (by omega) hc)))) (fun hc => absurd (by omega) hc)), rfl, fun x hx => (gU_o (by omega)).trans ((gU_o (by omega)).trans ((gU_o (by omega)).trans ((gU_o (by omega)).trans ((gU_o (by omega)).trans ((gU_o (by omega)).trans (gU_o (by omega))))))), fun x hx => rfl, fun x hx => rfl⟩
          · obtain rfl : b = 8 := i_is hs6 (by decide)
            refine w_if_lt rfl (fun h => absurd h (by decide)) (fun _ => ?_)
            refine w_pushI rfl ?_
            refine w_goto rfl ?_
            refine w_iret rfl (Or.inr ⟨rfl, by decide⟩) ?_
            show gW _ _ _ _ _ _ _ _ _ _
            refine w_if_eq rfl (fun h => absurd h (by decide)) (fun _ => ?_)
            refine w_iload rfl rfl ?_
            refine w_topv (z := 8) (by decide) ?_
            refine w_iload rfl rfl ?_
            refine w_callSi (As := [_, _]) (le := [some _, some _]) rfl rfl (Nat.le_of_ble_eq_true rfl) (Nat.le_of_ble_eq_true rfl) rfl ?_
            refine w_iload rfl rfl ?_
            refine w_if_lt rfl (fun h => absurd h (by decide)) (fun _ => ?_)
            refine w_iload rfl rfl ?_
            refine w_pushI rfl ?_
            refine w_icmp_ge rfl (fun h => absurd h (by decide)) (fun _ => ?_)
            refine w_iload rfl rfl ?_
            refine w_getS rfl ?_
            refine w_iload rfl rfl ?_
            refine w_saldv (n := 14) (q := 8) (x := 0) rfl (by decide) rfl (by unfold vp_in; decide) (by decide) rfl ?_
            refine w_icmp_ltZ (b := 0) rfl rfl (by decide) (fun h7 => ?_) (fun h7 => ?_)
            · refine w_pushI rfl ?_
              refine w_iret rfl (Or.inr ⟨rfl, by decide⟩) ?_
              show gW _ _ _ _ _ _ _ _ _ _
              refine w_if_ne rfl (fun h => absurd (by decide) h) (fun _ => ?_)
              refine w_pushI rfl ?_
              refine w_iret rfl (Or.inl rfl) ?_
              exact ⟨congrArg (fun v => some (Value.int v)) (show ((-1) : Int32) = f1_mend (0) (8) c by have e0 : (0 : Int32).toInt = 0 := rfl; have e1 : (8 : Int32).toInt = 8 := rfl; exact ite_eq_of (fun _ => ite_eq_of (fun hc => absurd hc (by omega)) (fun _ => ite_eq_of (fun hc => absurd hc (by omega)) (fun _ => ite_eq_of (fun hc => absurd hc (by omega)) (fun _ => ite_eq_of (fun _ => ite_eq_of (fun hc => absurd hc (by omega)) (fun _ => rfl)) (fun hc => absurd (by omega) hc))))) (fun hc => absurd (by omega) hc)), rfl, fun x hx => rfl, fun x hx => rfl, fun x hx => rfl⟩
            · refine w_iload rfl rfl ?_
              refine w_getS rfl ?_
              refine w_iload rfl rfl ?_
              refine w_saldv (n := 14) (q := 8) (x := 9999) rfl (by decide) rfl (by unfold vp_in; decide) (by decide) rfl ?_
              refine w_icmp_gtZ (b := 9999) rfl rfl (by decide) (fun h8 => ?_) (fun h8 => ?_)
              · refine w_pushI rfl ?_
                refine w_iret rfl (Or.inr ⟨rfl, by decide⟩) ?_
                show gW _ _ _ _ _ _ _ _ _ _
                refine w_if_ne rfl (fun h => absurd (by decide) h) (fun _ => ?_)
                refine w_pushI rfl ?_
                refine w_iret rfl (Or.inl rfl) ?_
                exact ⟨congrArg (fun v => some (Value.int v)) (show ((-1) : Int32) = f1_mend (0) (8) c by have e0 : (0 : Int32).toInt = 0 := rfl; have e1 : (8 : Int32).toInt = 8 := rfl; exact ite_eq_of (fun _ => ite_eq_of (fun hc => absurd hc (by omega)) (fun _ => ite_eq_of (fun hc => absurd hc (by omega)) (fun _ => ite_eq_of (fun hc => absurd hc (by omega)) (fun _ => ite_eq_of (fun _ => ite_eq_of (fun hc => absurd hc (by omega)) (fun _ => rfl)) (fun hc => absurd (by omega) hc))))) (fun hc => absurd (by omega) hc)), rfl, fun x hx => rfl, fun x hx => rfl, fun x hx => rfl⟩
              · refine w_pushI rfl ?_
                refine w_goto rfl ?_
                refine w_iret rfl (Or.inr ⟨rfl, by decide⟩) ?_
                show gW _ _ _ _ _ _ _ _ _ _
                refine w_if_ne rfl (fun _ => ?_) (fun h => absurd h (by decide))
                refine w_aload rfl rfl ?_
                refine w_getR (r := 8) rfl rfl (hR _ fmR_0_1) ?_
                refine w_iload rfl rfl ?_
                refine w_topv (z := 0) (by decide) ?_
                refine w_iload rfl rfl ?_
                refine w_topv (z := 8) (by decide) ?_
                refine w_callVi (As := [_, _]) (le := [some _, some _, some _, none]) rfl rfl rfl (Nat.le_of_ble_eq_true rfl) (Nat.le_of_ble_eq_true rfl) rfl ?_
                refine w_aload rfl rfl ?_
                refine w_iload rfl rfl ?_
                refine w_iload rfl rfl ?_
                refine w_callVi (As := [_, _]) (le := [some _, some _, some _]) rfl rfl rfl (Nat.le_of_ble_eq_true rfl) (Nat.le_of_ble_eq_true rfl) rfl ?_
                refine w_iload rfl rfl ?_
                refine w_if_lt rfl (fun h => absurd h (by decide)) (fun _ => ?_)
                refine w_iload rfl rfl ?_
                refine w_pushI rfl ?_
                refine w_icmp_lt rfl (fun _ => ?_) (fun h => absurd (by decide) h)
                refine w_iload rfl rfl ?_
                refine w_pushI rfl ?_
                refine w_icmp_ge rfl (fun _ => ?_) (fun h => absurd (by decide) h)
                refine w_iload rfl rfl ?_
                refine w_if_ne rfl (fun h => absurd (by decide) h) (fun _ => ?_)
                refine w_pushI rfl ?_
                refine w_iload rfl rfl ?_
                refine w_iaddv (z := 48) rfl (by decide) ?_
                refine w_goto rfl ?_
                refine w_iret rfl (Or.inl rfl) ?_
                show gW _ _ _ _ _ _ _ _ _ _
                refine w_istore rfl rfl ?_
                refine w_iload rfl rfl ?_
                refine w_if_ge rfl (fun _ => ?_) (fun h => absurd (by decide) h)
                refine w_aload rfl rfl ?_
                refine w_getR (r := 9) rfl rfl (hR _ fmR_8_1) ?_
                refine w_iload rfl rfl ?_
                refine w_ialdv (j := 48) (x := 60) rfl rfl (by decide) (by unfold vp_in; decide) (hI _ fmI_9_48) ?_
                refine w_iret rfl (Or.inl rfl) ?_
                show gW _ _ _ _ _ _ _ _ _ _
                refine w_istore rfl rfl ?_
                refine w_iload rfl rfl ?_
                refine w_iload rfl rfl ?_
                refine w_icmp_eqZ (a := 60) rfl (by decide) rfl (fun h9 => ?_) (fun h9 => ?_)
                · obtain rfl : c = 60 := i_is (show c.toInt = 60 by omega) (by decide)
                  refine w_iload rfl rfl ?_
                  refine w_iret rfl (Or.inl rfl) ?_
                  exact ⟨congrArg (fun v => some (Value.int v)) (show (60 : Int32) = f1_mend (0) (8) (60) by have e0 : (0 : Int32).toInt = 0 := rfl; have e1 : (8 : Int32).toInt = 8 := rfl; have e2 : (60 : Int32).toInt = 60 := rfl; exact ite_eq_of (fun _ => ite_eq_of (fun hc => absurd hc (by omega)) (fun _ => ite_eq_of (fun hc => absurd hc (by omega)) (fun _ => ite_eq_of (fun hc => absurd hc (by omega)) (fun _ => ite_eq_of (fun _ => ite_eq_of (fun _ => rfl) (fun hc => absurd (by omega) hc)) (fun hc => absurd (by omega) hc))))) (fun hc => absurd (by omega) hc)), rfl, fun x hx => rfl, fun x hx => rfl, fun x hx => rfl⟩
                · refine w_aload rfl rfl ?_
                  refine w_getR (r := 29) rfl rfl (hR _ fmR_0_9) ?_
                  refine w_iload rfl rfl ?_
                  refine w_topv (z := 0) (by decide) ?_
                  refine w_iload rfl rfl ?_
                  refine w_topv (z := 8) (by decide) ?_
                  refine w_iload rfl rfl ?_
                  refine w_iload rfl rfl ?_
                  refine w_callVi (As := [_, _, _, _]) (le := [some _, some _, some _, some _, some _]) rfl rfl rfl (Nat.le_of_ble_eq_true rfl) (Nat.le_of_ble_eq_true rfl) rfl ?_
                  refine w_aload rfl rfl ?_
                  refine w_getIv (x := 0) rfl rfl (hI _ fmI_29_5) ?_
                  refine w_pushI rfl ?_
                  refine w_icmp_lt rfl (fun _ => ?_) (fun h => absurd (by decide) h)
                  refine w_aload rfl rfl ?_
                  refine w_getR (r := 30) rfl rfl (hR _ fmR_29_1) ?_
                  refine w_aload rfl rfl ?_
                  refine w_getIv (x := 0) rfl rfl (hI _ fmI_29_5) ?_
                  refine w_iload rfl rfl ?_
                  refine w_iastv (j := 0) rfl rfl (by decide) (by unfold vp_in; decide) rfl ?_
                  refine w_aload rfl rfl ?_
                  refine w_getR (r := 31) rfl rfl (hR _ fmR_29_2) ?_
                  refine w_aload rfl rfl ?_
                  refine w_getIv (x := 0) rfl rfl ((gU_n (by decide)).trans (hI _ fmI_29_5)) ?_
                  refine w_iload rfl rfl ?_
                  refine w_iastv (j := 0) rfl rfl (by decide) (by unfold vp_in; decide) rfl ?_
                  refine w_aload rfl rfl ?_
                  refine w_getR (r := 32) rfl rfl (hR _ fmR_29_3) ?_
                  refine w_aload rfl rfl ?_
                  refine w_getIv (x := 0) rfl rfl ((gU_n (by decide)).trans ((gU_n (by decide)).trans (hI _ fmI_29_5))) ?_
                  refine w_iload rfl rfl ?_
                  refine w_iastv (j := 0) rfl rfl (by decide) (by unfold vp_in; decide) rfl ?_
                  refine w_aload rfl rfl ?_
                  refine w_getR (r := 33) rfl rfl (hR _ fmR_29_4) ?_
                  refine w_aload rfl rfl ?_
                  refine w_getIv (x := 0) rfl rfl ((gU_n (by decide)).trans ((gU_n (by decide)).trans ((gU_n (by decide)).trans (hI _ fmI_29_5)))) ?_
                  refine w_iload rfl rfl ?_
                  refine w_iastv (j := 0) rfl rfl (by decide) (by unfold vp_in; decide) rfl ?_
                  refine w_aload rfl rfl ?_
                  refine w_dup rfl rfl ?_
                  refine w_getIv (x := 0) rfl rfl ((gU_n (by decide)).trans ((gU_n (by decide)).trans ((gU_n (by decide)).trans ((gU_n (by decide)).trans (hI _ fmI_29_5))))) ?_
                  refine w_pushI rfl ?_
                  refine w_iaddv (z := 1) rfl (by decide) ?_
                  refine w_putI rfl rfl ?_
                  refine w_aload rfl rfl ?_
                  refine w_aload rfl rfl ?_
                  refine w_getIv (x := 1) rfl rfl (gU_e) ?_
                  refine w_putI rfl rfl ?_
                  refine w_vret rfl rfl ?_
                  show gW _ _ _ _ _ _ _ _ _ _
                  refine w_aload rfl rfl ?_
                  refine w_getR (r := 8) rfl rfl (hR _ fmR_0_1) ?_
                  refine w_iload rfl rfl ?_
                  refine w_topv (z := 0) (by decide) ?_
                  refine w_iload rfl rfl ?_
                  refine w_topv (z := 8) (by decide) ?_
                  refine w_iload rfl rfl ?_
                  refine w_callVi (As := [_, _, _]) (le := [some _, some _, some _, some _, none]) rfl rfl rfl (Nat.le_of_ble_eq_true rfl) (Nat.le_of_ble_eq_true rfl) rfl ?_
                  refine w_aload rfl rfl ?_
                  refine w_iload rfl rfl ?_
                  refine w_iload rfl rfl ?_
                  refine w_callVi (As := [_, _]) (le := [some _, some _, some _]) rfl rfl rfl (Nat.le_of_ble_eq_true rfl) (Nat.le_of_ble_eq_true rfl) rfl ?_
                  refine w_iload rfl rfl ?_
                  refine w_if_lt rfl (fun h => absurd h (by decide)) (fun _ => ?_)
                  refine w_iload rfl rfl ?_
                  refine w_pushI rfl ?_
                  refine w_icmp_lt rfl (fun _ => ?_) (fun h => absurd (by decide) h)
                  refine w_iload rfl rfl ?_
                  refine w_pushI rfl ?_
                  refine w_icmp_ge rfl (fun _ => ?_) (fun h => absurd (by decide) h)
                  refine w_iload rfl rfl ?_
                  refine w_if_ne rfl (fun h => absurd (by decide) h) (fun _ => ?_)
                  refine w_pushI rfl ?_
                  refine w_iload rfl rfl ?_
                  refine w_iaddv (z := 48) rfl (by decide) ?_
                  refine w_goto rfl ?_
                  refine w_iret rfl (Or.inl rfl) ?_
                  show gW _ _ _ _ _ _ _ _ _ _
                  refine w_istore rfl rfl ?_
                  refine w_iload rfl rfl ?_
                  refine w_if_lt rfl (fun h => absurd h (by decide)) (fun _ => ?_)
                  refine w_aload rfl rfl ?_
                  refine w_getR (r := 9) rfl rfl (hR _ fmR_8_1) ?_
                  refine w_iload rfl rfl ?_
                  refine w_iload rfl rfl ?_
                  refine w_iastv (j := 48) rfl rfl (by decide) (by unfold vp_in; decide) rfl ?_
                  refine w_vret rfl rfl ?_
                  show gW _ _ _ _ _ _ _ _ _ _
                  refine w_iload rfl rfl ?_
                  refine w_iret rfl (Or.inl rfl) ?_
                  exact ⟨congrArg (fun v => some (Value.int v)) (show (60 : Int32) = f1_mend (0) (8) c by have e0 : (0 : Int32).toInt = 0 := rfl; have e1 : (8 : Int32).toInt = 8 := rfl; exact ite_eq_of (fun _ => ite_eq_of (fun hc => absurd hc (by omega)) (fun _ => ite_eq_of (fun hc => absurd hc (by omega)) (fun _ => ite_eq_of (fun hc => absurd hc (by omega)) (fun _ => ite_eq_of (fun _ => ite_eq_of (fun _ => rfl) (fun hc => absurd (by omega) hc)) (fun hc => absurd (by omega) hc))))) (fun hc => absurd (by omega) hc)), rfl, fun x hx => (gU_o (by omega)).trans ((gU_o (by omega)).trans ((gU_o (by omega)).trans ((gU_o (by omega)).trans ((gU_o (by omega)).trans ((gU_o (by omega)).trans (gU_o (by omega))))))), fun x hx => rfl, fun x hx => rfl⟩
          · obtain rfl : b = 9 := i_is hs6 (by decide)
            refine w_if_lt rfl (fun h => absurd h (by decide)) (fun _ => ?_)
            refine w_pushI rfl ?_
            refine w_goto rfl ?_
            refine w_iret rfl (Or.inr ⟨rfl, by decide⟩) ?_
            show gW _ _ _ _ _ _ _ _ _ _
            refine w_if_eq rfl (fun h => absurd h (by decide)) (fun _ => ?_)
            refine w_iload rfl rfl ?_
            refine w_topv (z := 9) (by decide) ?_
            refine w_iload rfl rfl ?_
            refine w_callSi (As := [_, _]) (le := [some _, some _]) rfl rfl (Nat.le_of_ble_eq_true rfl) (Nat.le_of_ble_eq_true rfl) rfl ?_
            refine w_iload rfl rfl ?_
            refine w_if_lt rfl (fun h => absurd h (by decide)) (fun _ => ?_)
            refine w_iload rfl rfl ?_
            refine w_pushI rfl ?_
            refine w_icmp_ge rfl (fun h => absurd h (by decide)) (fun _ => ?_)
            refine w_iload rfl rfl ?_
            refine w_getS rfl ?_
            refine w_iload rfl rfl ?_
            refine w_saldv (n := 14) (q := 9) (x := 0) rfl (by decide) rfl (by unfold vp_in; decide) (by decide) rfl ?_
            refine w_icmp_ltZ (b := 0) rfl rfl (by decide) (fun h7 => ?_) (fun h7 => ?_)
            · refine w_pushI rfl ?_
              refine w_iret rfl (Or.inr ⟨rfl, by decide⟩) ?_
              show gW _ _ _ _ _ _ _ _ _ _
              refine w_if_ne rfl (fun h => absurd (by decide) h) (fun _ => ?_)
              refine w_pushI rfl ?_
              refine w_iret rfl (Or.inl rfl) ?_
              exact ⟨congrArg (fun v => some (Value.int v)) (show ((-1) : Int32) = f1_mend (0) (9) c by have e0 : (0 : Int32).toInt = 0 := rfl; have e1 : (9 : Int32).toInt = 9 := rfl; exact ite_eq_of (fun _ => ite_eq_of (fun hc => absurd hc (by omega)) (fun _ => ite_eq_of (fun hc => absurd hc (by omega)) (fun _ => ite_eq_of (fun hc => absurd hc (by omega)) (fun _ => ite_eq_of (fun hc => absurd hc (by omega)) (fun _ => ite_eq_of (fun _ => ite_eq_of (fun hc => absurd hc (by omega)) (fun _ => rfl)) (fun hc => absurd (by omega) hc)))))) (fun hc => absurd (by omega) hc)), rfl, fun x hx => rfl, fun x hx => rfl, fun x hx => rfl⟩
            · refine w_iload rfl rfl ?_
              refine w_getS rfl ?_
              refine w_iload rfl rfl ?_
              refine w_saldv (n := 14) (q := 9) (x := 9999) rfl (by decide) rfl (by unfold vp_in; decide) (by decide) rfl ?_
              refine w_icmp_gtZ (b := 9999) rfl rfl (by decide) (fun h8 => ?_) (fun h8 => ?_)
              · refine w_pushI rfl ?_
                refine w_iret rfl (Or.inr ⟨rfl, by decide⟩) ?_
                show gW _ _ _ _ _ _ _ _ _ _
                refine w_if_ne rfl (fun h => absurd (by decide) h) (fun _ => ?_)
                refine w_pushI rfl ?_
                refine w_iret rfl (Or.inl rfl) ?_
                exact ⟨congrArg (fun v => some (Value.int v)) (show ((-1) : Int32) = f1_mend (0) (9) c by have e0 : (0 : Int32).toInt = 0 := rfl; have e1 : (9 : Int32).toInt = 9 := rfl; exact ite_eq_of (fun _ => ite_eq_of (fun hc => absurd hc (by omega)) (fun _ => ite_eq_of (fun hc => absurd hc (by omega)) (fun _ => ite_eq_of (fun hc => absurd hc (by omega)) (fun _ => ite_eq_of (fun hc => absurd hc (by omega)) (fun _ => ite_eq_of (fun _ => ite_eq_of (fun hc => absurd hc (by omega)) (fun _ => rfl)) (fun hc => absurd (by omega) hc)))))) (fun hc => absurd (by omega) hc)), rfl, fun x hx => rfl, fun x hx => rfl, fun x hx => rfl⟩
              · refine w_pushI rfl ?_
                refine w_goto rfl ?_
                refine w_iret rfl (Or.inr ⟨rfl, by decide⟩) ?_
                show gW _ _ _ _ _ _ _ _ _ _
                refine w_if_ne rfl (fun _ => ?_) (fun h => absurd h (by decide))
                refine w_aload rfl rfl ?_
                refine w_getR (r := 8) rfl rfl (hR _ fmR_0_1) ?_
                refine w_iload rfl rfl ?_
                refine w_topv (z := 0) (by decide) ?_
                refine w_iload rfl rfl ?_
                refine w_topv (z := 9) (by decide) ?_
                refine w_callVi (As := [_, _]) (le := [some _, some _, some _, none]) rfl rfl rfl (Nat.le_of_ble_eq_true rfl) (Nat.le_of_ble_eq_true rfl) rfl ?_
                refine w_aload rfl rfl ?_
                refine w_iload rfl rfl ?_
                refine w_iload rfl rfl ?_
                refine w_callVi (As := [_, _]) (le := [some _, some _, some _]) rfl rfl rfl (Nat.le_of_ble_eq_true rfl) (Nat.le_of_ble_eq_true rfl) rfl ?_
                refine w_iload rfl rfl ?_
                refine w_if_lt rfl (fun h => absurd h (by decide)) (fun _ => ?_)
                refine w_iload rfl rfl ?_
                refine w_pushI rfl ?_
                refine w_icmp_lt rfl (fun _ => ?_) (fun h => absurd (by decide) h)
                refine w_iload rfl rfl ?_
                refine w_pushI rfl ?_
                refine w_icmp_ge rfl (fun _ => ?_) (fun h => absurd (by decide) h)
                refine w_iload rfl rfl ?_
                refine w_if_ne rfl (fun h => absurd (by decide) h) (fun _ => ?_)
                refine w_pushI rfl ?_
                refine w_iload rfl rfl ?_
                refine w_iaddv (z := 49) rfl (by decide) ?_
                refine w_goto rfl ?_
                refine w_iret rfl (Or.inl rfl) ?_
                show gW _ _ _ _ _ _ _ _ _ _
                refine w_istore rfl rfl ?_
                refine w_iload rfl rfl ?_
                refine w_if_ge rfl (fun _ => ?_) (fun h => absurd (by decide) h)
                refine w_aload rfl rfl ?_
                refine w_getR (r := 9) rfl rfl (hR _ fmR_8_1) ?_
                refine w_iload rfl rfl ?_
                refine w_ialdv (j := 49) (x := 90) rfl rfl (by decide) (by unfold vp_in; decide) (hI _ fmI_9_49) ?_
                refine w_iret rfl (Or.inl rfl) ?_
                show gW _ _ _ _ _ _ _ _ _ _
                refine w_istore rfl rfl ?_
                refine w_iload rfl rfl ?_
                refine w_iload rfl rfl ?_
                refine w_icmp_eqZ (a := 90) rfl (by decide) rfl (fun h9 => ?_) (fun h9 => ?_)
                · obtain rfl : c = 90 := i_is (show c.toInt = 90 by omega) (by decide)
                  refine w_iload rfl rfl ?_
                  refine w_iret rfl (Or.inl rfl) ?_
                  exact ⟨congrArg (fun v => some (Value.int v)) (show (90 : Int32) = f1_mend (0) (9) (90) by have e0 : (0 : Int32).toInt = 0 := rfl; have e1 : (9 : Int32).toInt = 9 := rfl; have e2 : (90 : Int32).toInt = 90 := rfl; exact ite_eq_of (fun _ => ite_eq_of (fun hc => absurd hc (by omega)) (fun _ => ite_eq_of (fun hc => absurd hc (by omega)) (fun _ => ite_eq_of (fun hc => absurd hc (by omega)) (fun _ => ite_eq_of (fun hc => absurd hc (by omega)) (fun _ => ite_eq_of (fun _ => ite_eq_of (fun _ => rfl) (fun hc => absurd (by omega) hc)) (fun hc => absurd (by omega) hc)))))) (fun hc => absurd (by omega) hc)), rfl, fun x hx => rfl, fun x hx => rfl, fun x hx => rfl⟩
                · refine w_aload rfl rfl ?_
                  refine w_getR (r := 29) rfl rfl (hR _ fmR_0_9) ?_
                  refine w_iload rfl rfl ?_
                  refine w_topv (z := 0) (by decide) ?_
                  refine w_iload rfl rfl ?_
                  refine w_topv (z := 9) (by decide) ?_
                  refine w_iload rfl rfl ?_
                  refine w_iload rfl rfl ?_
                  refine w_callVi (As := [_, _, _, _]) (le := [some _, some _, some _, some _, some _]) rfl rfl rfl (Nat.le_of_ble_eq_true rfl) (Nat.le_of_ble_eq_true rfl) rfl ?_
                  refine w_aload rfl rfl ?_
                  refine w_getIv (x := 0) rfl rfl (hI _ fmI_29_5) ?_
                  refine w_pushI rfl ?_
                  refine w_icmp_lt rfl (fun _ => ?_) (fun h => absurd (by decide) h)
                  refine w_aload rfl rfl ?_
                  refine w_getR (r := 30) rfl rfl (hR _ fmR_29_1) ?_
                  refine w_aload rfl rfl ?_
                  refine w_getIv (x := 0) rfl rfl (hI _ fmI_29_5) ?_
                  refine w_iload rfl rfl ?_
                  refine w_iastv (j := 0) rfl rfl (by decide) (by unfold vp_in; decide) rfl ?_
                  refine w_aload rfl rfl ?_
                  refine w_getR (r := 31) rfl rfl (hR _ fmR_29_2) ?_
                  refine w_aload rfl rfl ?_
                  refine w_getIv (x := 0) rfl rfl ((gU_n (by decide)).trans (hI _ fmI_29_5)) ?_
                  refine w_iload rfl rfl ?_
                  refine w_iastv (j := 0) rfl rfl (by decide) (by unfold vp_in; decide) rfl ?_
                  refine w_aload rfl rfl ?_
                  refine w_getR (r := 32) rfl rfl (hR _ fmR_29_3) ?_
                  refine w_aload rfl rfl ?_
                  refine w_getIv (x := 0) rfl rfl ((gU_n (by decide)).trans ((gU_n (by decide)).trans (hI _ fmI_29_5))) ?_
                  refine w_iload rfl rfl ?_
                  refine w_iastv (j := 0) rfl rfl (by decide) (by unfold vp_in; decide) rfl ?_
                  refine w_aload rfl rfl ?_
                  refine w_getR (r := 33) rfl rfl (hR _ fmR_29_4) ?_
                  refine w_aload rfl rfl ?_
                  refine w_getIv (x := 0) rfl rfl ((gU_n (by decide)).trans ((gU_n (by decide)).trans ((gU_n (by decide)).trans (hI _ fmI_29_5)))) ?_
                  refine w_iload rfl rfl ?_
                  refine w_iastv (j := 0) rfl rfl (by decide) (by unfold vp_in; decide) rfl ?_
                  refine w_aload rfl rfl ?_
                  refine w_dup rfl rfl ?_
                  refine w_getIv (x := 0) rfl rfl ((gU_n (by decide)).trans ((gU_n (by decide)).trans ((gU_n (by decide)).trans ((gU_n (by decide)).trans (hI _ fmI_29_5))))) ?_
                  refine w_pushI rfl ?_
                  refine w_iaddv (z := 1) rfl (by decide) ?_
                  refine w_putI rfl rfl ?_
                  refine w_aload rfl rfl ?_
                  refine w_aload rfl rfl ?_
                  refine w_getIv (x := 1) rfl rfl (gU_e) ?_
                  refine w_putI rfl rfl ?_
                  refine w_vret rfl rfl ?_
                  show gW _ _ _ _ _ _ _ _ _ _
                  refine w_aload rfl rfl ?_
                  refine w_getR (r := 8) rfl rfl (hR _ fmR_0_1) ?_
                  refine w_iload rfl rfl ?_
                  refine w_topv (z := 0) (by decide) ?_
                  refine w_iload rfl rfl ?_
                  refine w_topv (z := 9) (by decide) ?_
                  refine w_iload rfl rfl ?_
                  refine w_callVi (As := [_, _, _]) (le := [some _, some _, some _, some _, none]) rfl rfl rfl (Nat.le_of_ble_eq_true rfl) (Nat.le_of_ble_eq_true rfl) rfl ?_
                  refine w_aload rfl rfl ?_
                  refine w_iload rfl rfl ?_
                  refine w_iload rfl rfl ?_
                  refine w_callVi (As := [_, _]) (le := [some _, some _, some _]) rfl rfl rfl (Nat.le_of_ble_eq_true rfl) (Nat.le_of_ble_eq_true rfl) rfl ?_
                  refine w_iload rfl rfl ?_
                  refine w_if_lt rfl (fun h => absurd h (by decide)) (fun _ => ?_)
                  refine w_iload rfl rfl ?_
                  refine w_pushI rfl ?_
                  refine w_icmp_lt rfl (fun _ => ?_) (fun h => absurd (by decide) h)
                  refine w_iload rfl rfl ?_
                  refine w_pushI rfl ?_
                  refine w_icmp_ge rfl (fun _ => ?_) (fun h => absurd (by decide) h)
                  refine w_iload rfl rfl ?_
                  refine w_if_ne rfl (fun h => absurd (by decide) h) (fun _ => ?_)
                  refine w_pushI rfl ?_
                  refine w_iload rfl rfl ?_
                  refine w_iaddv (z := 49) rfl (by decide) ?_
                  refine w_goto rfl ?_
                  refine w_iret rfl (Or.inl rfl) ?_
                  show gW _ _ _ _ _ _ _ _ _ _
                  refine w_istore rfl rfl ?_
                  refine w_iload rfl rfl ?_
                  refine w_if_lt rfl (fun h => absurd h (by decide)) (fun _ => ?_)
                  refine w_aload rfl rfl ?_
                  refine w_getR (r := 9) rfl rfl (hR _ fmR_8_1) ?_
                  refine w_iload rfl rfl ?_
                  refine w_iload rfl rfl ?_
                  refine w_iastv (j := 49) rfl rfl (by decide) (by unfold vp_in; decide) rfl ?_
                  refine w_vret rfl rfl ?_
                  show gW _ _ _ _ _ _ _ _ _ _
                  refine w_iload rfl rfl ?_
                  refine w_iret rfl (Or.inl rfl) ?_
                  exact ⟨congrArg (fun v => some (Value.int v)) (show (90 : Int32) = f1_mend (0) (9) c by have e0 : (0 : Int32).toInt = 0 := rfl; have e1 : (9 : Int32).toInt = 9 := rfl; exact ite_eq_of (fun _ => ite_eq_of (fun hc => absurd hc (by omega)) (fun _ => ite_eq_of (fun hc => absurd hc (by omega)) (fun _ => ite_eq_of (fun hc => absurd hc (by omega)) (fun _ => ite_eq_of (fun hc => absurd hc (by omega)) (fun _ => ite_eq_of (fun _ => ite_eq_of (fun _ => rfl) (fun hc => absurd (by omega) hc)) (fun hc => absurd (by omega) hc)))))) (fun hc => absurd (by omega) hc)), rfl, fun x hx => (gU_o (by omega)).trans ((gU_o (by omega)).trans ((gU_o (by omega)).trans ((gU_o (by omega)).trans ((gU_o (by omega)).trans ((gU_o (by omega)).trans (gU_o (by omega))))))), fun x hx => rfl, fun x hx => rfl⟩
          · obtain rfl : b = 10 := i_is hs6 (by decide)
            refine w_if_lt rfl (fun h => absurd h (by decide)) (fun _ => ?_)
            refine w_pushI rfl ?_
            refine w_goto rfl ?_
            refine w_iret rfl (Or.inr ⟨rfl, by decide⟩) ?_
            show gW _ _ _ _ _ _ _ _ _ _
            refine w_if_eq rfl (fun h => absurd h (by decide)) (fun _ => ?_)
            refine w_iload rfl rfl ?_
            refine w_topv (z := 10) (by decide) ?_
            refine w_iload rfl rfl ?_
            refine w_callSi (As := [_, _]) (le := [some _, some _]) rfl rfl (Nat.le_of_ble_eq_true rfl) (Nat.le_of_ble_eq_true rfl) rfl ?_
            refine w_iload rfl rfl ?_
            refine w_if_lt rfl (fun h => absurd h (by decide)) (fun _ => ?_)
            refine w_iload rfl rfl ?_
            refine w_pushI rfl ?_
            refine w_icmp_ge rfl (fun h => absurd h (by decide)) (fun _ => ?_)
            refine w_iload rfl rfl ?_
            refine w_getS rfl ?_
            refine w_iload rfl rfl ?_
            refine w_saldv (n := 14) (q := 10) (x := 0) rfl (by decide) rfl (by unfold vp_in; decide) (by decide) rfl ?_
            refine w_icmp_ltZ (b := 0) rfl rfl (by decide) (fun h7 => ?_) (fun h7 => ?_)
            · refine w_pushI rfl ?_
              refine w_iret rfl (Or.inr ⟨rfl, by decide⟩) ?_
              show gW _ _ _ _ _ _ _ _ _ _
              refine w_if_ne rfl (fun h => absurd (by decide) h) (fun _ => ?_)
              refine w_pushI rfl ?_
              refine w_iret rfl (Or.inl rfl) ?_
              exact ⟨congrArg (fun v => some (Value.int v)) (show ((-1) : Int32) = f1_mend (0) (10) c by have e0 : (0 : Int32).toInt = 0 := rfl; have e1 : (10 : Int32).toInt = 10 := rfl; exact ite_eq_of (fun _ => ite_eq_of (fun hc => absurd hc (by omega)) (fun _ => ite_eq_of (fun hc => absurd hc (by omega)) (fun _ => ite_eq_of (fun hc => absurd hc (by omega)) (fun _ => ite_eq_of (fun hc => absurd hc (by omega)) (fun _ => ite_eq_of (fun hc => absurd hc (by omega)) (fun _ => ite_eq_of (fun _ => ite_eq_of (fun hc => absurd hc (by omega)) (fun _ => rfl)) (fun hc => absurd (by omega) hc))))))) (fun hc => absurd (by omega) hc)), rfl, fun x hx => rfl, fun x hx => rfl, fun x hx => rfl⟩
            · refine w_iload rfl rfl ?_
              refine w_getS rfl ?_
              refine w_iload rfl rfl ?_
              refine w_saldv (n := 14) (q := 10) (x := 12) rfl (by decide) rfl (by unfold vp_in; decide) (by decide) rfl ?_
              refine w_icmp_gtZ (b := 12) rfl rfl (by decide) (fun h8 => ?_) (fun h8 => ?_)
              · refine w_pushI rfl ?_
                refine w_iret rfl (Or.inr ⟨rfl, by decide⟩) ?_
                show gW _ _ _ _ _ _ _ _ _ _
                refine w_if_ne rfl (fun h => absurd (by decide) h) (fun _ => ?_)
                refine w_pushI rfl ?_
                refine w_iret rfl (Or.inl rfl) ?_
                exact ⟨congrArg (fun v => some (Value.int v)) (show ((-1) : Int32) = f1_mend (0) (10) c by have e0 : (0 : Int32).toInt = 0 := rfl; have e1 : (10 : Int32).toInt = 10 := rfl; exact ite_eq_of (fun _ => ite_eq_of (fun hc => absurd hc (by omega)) (fun _ => ite_eq_of (fun hc => absurd hc (by omega)) (fun _ => ite_eq_of (fun hc => absurd hc (by omega)) (fun _ => ite_eq_of (fun hc => absurd hc (by omega)) (fun _ => ite_eq_of (fun hc => absurd hc (by omega)) (fun _ => ite_eq_of (fun _ => ite_eq_of (fun hc => absurd hc (by omega)) (fun _ => rfl)) (fun hc => absurd (by omega) hc))))))) (fun hc => absurd (by omega) hc)), rfl, fun x hx => rfl, fun x hx => rfl, fun x hx => rfl⟩
              · refine w_pushI rfl ?_
                refine w_goto rfl ?_
                refine w_iret rfl (Or.inr ⟨rfl, by decide⟩) ?_
                show gW _ _ _ _ _ _ _ _ _ _
                refine w_if_ne rfl (fun _ => ?_) (fun h => absurd h (by decide))
                refine w_aload rfl rfl ?_
                refine w_getR (r := 8) rfl rfl (hR _ fmR_0_1) ?_
                refine w_iload rfl rfl ?_
                refine w_topv (z := 0) (by decide) ?_
                refine w_iload rfl rfl ?_
                refine w_topv (z := 10) (by decide) ?_
                refine w_callVi (As := [_, _]) (le := [some _, some _, some _, none]) rfl rfl rfl (Nat.le_of_ble_eq_true rfl) (Nat.le_of_ble_eq_true rfl) rfl ?_
                refine w_aload rfl rfl ?_
                refine w_iload rfl rfl ?_
                refine w_iload rfl rfl ?_
                refine w_callVi (As := [_, _]) (le := [some _, some _, some _]) rfl rfl rfl (Nat.le_of_ble_eq_true rfl) (Nat.le_of_ble_eq_true rfl) rfl ?_
                refine w_iload rfl rfl ?_
                refine w_if_lt rfl (fun h => absurd h (by decide)) (fun _ => ?_)
                refine w_iload rfl rfl ?_
                refine w_pushI rfl ?_
                refine w_icmp_lt rfl (fun _ => ?_) (fun h => absurd (by decide) h)
                refine w_iload rfl rfl ?_
                refine w_pushI rfl ?_
                refine w_icmp_ge rfl (fun _ => ?_) (fun h => absurd (by decide) h)
                refine w_iload rfl rfl ?_
                refine w_if_ne rfl (fun h => absurd (by decide) h) (fun _ => ?_)
                refine w_pushI rfl ?_
                refine w_iload rfl rfl ?_
                refine w_iaddv (z := 50) rfl (by decide) ?_
                refine w_goto rfl ?_
                refine w_iret rfl (Or.inl rfl) ?_
                show gW _ _ _ _ _ _ _ _ _ _
                refine w_istore rfl rfl ?_
                refine w_iload rfl rfl ?_
                refine w_if_ge rfl (fun _ => ?_) (fun h => absurd (by decide) h)
                refine w_aload rfl rfl ?_
                refine w_getR (r := 9) rfl rfl (hR _ fmR_8_1) ?_
                refine w_iload rfl rfl ?_
                refine w_ialdv (j := 50) (x := 3) rfl rfl (by decide) (by unfold vp_in; decide) (hI _ fmI_9_50) ?_
                refine w_iret rfl (Or.inl rfl) ?_
                show gW _ _ _ _ _ _ _ _ _ _
                refine w_istore rfl rfl ?_
                refine w_iload rfl rfl ?_
                refine w_iload rfl rfl ?_
                refine w_icmp_eqZ (a := 3) rfl (by decide) rfl (fun h9 => ?_) (fun h9 => ?_)
                · obtain rfl : c = 3 := i_is (show c.toInt = 3 by omega) (by decide)
                  refine w_iload rfl rfl ?_
                  refine w_iret rfl (Or.inl rfl) ?_
                  exact ⟨congrArg (fun v => some (Value.int v)) (show (3 : Int32) = f1_mend (0) (10) (3) by have e0 : (0 : Int32).toInt = 0 := rfl; have e1 : (10 : Int32).toInt = 10 := rfl; have e2 : (3 : Int32).toInt = 3 := rfl; exact ite_eq_of (fun _ => ite_eq_of (fun hc => absurd hc (by omega)) (fun _ => ite_eq_of (fun hc => absurd hc (by omega)) (fun _ => ite_eq_of (fun hc => absurd hc (by omega)) (fun _ => ite_eq_of (fun hc => absurd hc (by omega)) (fun _ => ite_eq_of (fun hc => absurd hc (by omega)) (fun _ => ite_eq_of (fun _ => ite_eq_of (fun _ => rfl) (fun hc => absurd (by omega) hc)) (fun hc => absurd (by omega) hc))))))) (fun hc => absurd (by omega) hc)), rfl, fun x hx => rfl, fun x hx => rfl, fun x hx => rfl⟩
                · refine w_aload rfl rfl ?_
                  refine w_getR (r := 29) rfl rfl (hR _ fmR_0_9) ?_
                  refine w_iload rfl rfl ?_
                  refine w_topv (z := 0) (by decide) ?_
                  refine w_iload rfl rfl ?_
                  refine w_topv (z := 10) (by decide) ?_
                  refine w_iload rfl rfl ?_
                  refine w_iload rfl rfl ?_
                  refine w_callVi (As := [_, _, _, _]) (le := [some _, some _, some _, some _, some _]) rfl rfl rfl (Nat.le_of_ble_eq_true rfl) (Nat.le_of_ble_eq_true rfl) rfl ?_
                  refine w_aload rfl rfl ?_
                  refine w_getIv (x := 0) rfl rfl (hI _ fmI_29_5) ?_
                  refine w_pushI rfl ?_
                  refine w_icmp_lt rfl (fun _ => ?_) (fun h => absurd (by decide) h)
                  refine w_aload rfl rfl ?_
                  refine w_getR (r := 30) rfl rfl (hR _ fmR_29_1) ?_
                  refine w_aload rfl rfl ?_
                  refine w_getIv (x := 0) rfl rfl (hI _ fmI_29_5) ?_
                  refine w_iload rfl rfl ?_
                  refine w_iastv (j := 0) rfl rfl (by decide) (by unfold vp_in; decide) rfl ?_
                  refine w_aload rfl rfl ?_
                  refine w_getR (r := 31) rfl rfl (hR _ fmR_29_2) ?_
                  refine w_aload rfl rfl ?_
                  refine w_getIv (x := 0) rfl rfl ((gU_n (by decide)).trans (hI _ fmI_29_5)) ?_
                  refine w_iload rfl rfl ?_
                  refine w_iastv (j := 0) rfl rfl (by decide) (by unfold vp_in; decide) rfl ?_
                  refine w_aload rfl rfl ?_
                  refine w_getR (r := 32) rfl rfl (hR _ fmR_29_3) ?_
                  refine w_aload rfl rfl ?_
                  refine w_getIv (x := 0) rfl rfl ((gU_n (by decide)).trans ((gU_n (by decide)).trans (hI _ fmI_29_5))) ?_
                  refine w_iload rfl rfl ?_
                  refine w_iastv (j := 0) rfl rfl (by decide) (by unfold vp_in; decide) rfl ?_
                  refine w_aload rfl rfl ?_
                  refine w_getR (r := 33) rfl rfl (hR _ fmR_29_4) ?_
                  refine w_aload rfl rfl ?_
                  refine w_getIv (x := 0) rfl rfl ((gU_n (by decide)).trans ((gU_n (by decide)).trans ((gU_n (by decide)).trans (hI _ fmI_29_5)))) ?_
                  refine w_iload rfl rfl ?_
                  refine w_iastv (j := 0) rfl rfl (by decide) (by unfold vp_in; decide) rfl ?_
                  refine w_aload rfl rfl ?_
                  refine w_dup rfl rfl ?_
                  refine w_getIv (x := 0) rfl rfl ((gU_n (by decide)).trans ((gU_n (by decide)).trans ((gU_n (by decide)).trans ((gU_n (by decide)).trans (hI _ fmI_29_5))))) ?_
                  refine w_pushI rfl ?_
                  refine w_iaddv (z := 1) rfl (by decide) ?_
                  refine w_putI rfl rfl ?_
                  refine w_aload rfl rfl ?_
                  refine w_aload rfl rfl ?_
                  refine w_getIv (x := 1) rfl rfl (gU_e) ?_
                  refine w_putI rfl rfl ?_
                  refine w_vret rfl rfl ?_
                  show gW _ _ _ _ _ _ _ _ _ _
                  refine w_aload rfl rfl ?_
                  refine w_getR (r := 8) rfl rfl (hR _ fmR_0_1) ?_
                  refine w_iload rfl rfl ?_
                  refine w_topv (z := 0) (by decide) ?_
                  refine w_iload rfl rfl ?_
                  refine w_topv (z := 10) (by decide) ?_
                  refine w_iload rfl rfl ?_
                  refine w_callVi (As := [_, _, _]) (le := [some _, some _, some _, some _, none]) rfl rfl rfl (Nat.le_of_ble_eq_true rfl) (Nat.le_of_ble_eq_true rfl) rfl ?_
                  refine w_aload rfl rfl ?_
                  refine w_iload rfl rfl ?_
                  refine w_iload rfl rfl ?_
                  refine w_callVi (As := [_, _]) (le := [some _, some _, some _]) rfl rfl rfl (Nat.le_of_ble_eq_true rfl) (Nat.le_of_ble_eq_true rfl) rfl ?_
                  refine w_iload rfl rfl ?_
                  refine w_if_lt rfl (fun h => absurd h (by decide)) (fun _ => ?_)
                  refine w_iload rfl rfl ?_
                  refine w_pushI rfl ?_
                  refine w_icmp_lt rfl (fun _ => ?_) (fun h => absurd (by decide) h)
                  refine w_iload rfl rfl ?_
                  refine w_pushI rfl ?_
                  refine w_icmp_ge rfl (fun _ => ?_) (fun h => absurd (by decide) h)
                  refine w_iload rfl rfl ?_
                  refine w_if_ne rfl (fun h => absurd (by decide) h) (fun _ => ?_)
                  refine w_pushI rfl ?_
                  refine w_iload rfl rfl ?_
                  refine w_iaddv (z := 50) rfl (by decide) ?_
                  refine w_goto rfl ?_
                  refine w_iret rfl (Or.inl rfl) ?_
                  show gW _ _ _ _ _ _ _ _ _ _
                  refine w_istore rfl rfl ?_
                  refine w_iload rfl rfl ?_
                  refine w_if_lt rfl (fun h => absurd h (by decide)) (fun _ => ?_)
                  refine w_aload rfl rfl ?_
                  refine w_getR (r := 9) rfl rfl (hR _ fmR_8_1) ?_
                  refine w_iload rfl rfl ?_
                  refine w_iload rfl rfl ?_
                  refine w_iastv (j := 50) rfl rfl (by decide) (by unfold vp_in; decide) rfl ?_
                  refine w_vret rfl rfl ?_
                  show gW _ _ _ _ _ _ _ _ _ _
                  refine w_iload rfl rfl ?_
                  refine w_iret rfl (Or.inl rfl) ?_
                  exact ⟨congrArg (fun v => some (Value.int v)) (show (3 : Int32) = f1_mend (0) (10) c by have e0 : (0 : Int32).toInt = 0 := rfl; have e1 : (10 : Int32).toInt = 10 := rfl; exact ite_eq_of (fun _ => ite_eq_of (fun hc => absurd hc (by omega)) (fun _ => ite_eq_of (fun hc => absurd hc (by omega)) (fun _ => ite_eq_of (fun hc => absurd hc (by omega)) (fun _ => ite_eq_of (fun hc => absurd hc (by omega)) (fun _ => ite_eq_of (fun hc => absurd hc (by omega)) (fun _ => ite_eq_of (fun _ => ite_eq_of (fun _ => rfl) (fun hc => absurd (by omega) hc)) (fun hc => absurd (by omega) hc))))))) (fun hc => absurd (by omega) hc)), rfl, fun x hx => (gU_o (by omega)).trans ((gU_o (by omega)).trans ((gU_o (by omega)).trans ((gU_o (by omega)).trans ((gU_o (by omega)).trans ((gU_o (by omega)).trans (gU_o (by omega))))))), fun x hx => rfl, fun x hx => rfl⟩
          · obtain rfl : b = 11 := i_is hs6 (by decide)
            refine w_if_lt rfl (fun h => absurd h (by decide)) (fun _ => ?_)
            refine w_pushI rfl ?_
            refine w_goto rfl ?_
            refine w_iret rfl (Or.inr ⟨rfl, by decide⟩) ?_
            show gW _ _ _ _ _ _ _ _ _ _
            refine w_if_eq rfl (fun h => absurd h (by decide)) (fun _ => ?_)
            refine w_iload rfl rfl ?_
            refine w_topv (z := 11) (by decide) ?_
            refine w_iload rfl rfl ?_
            refine w_callSi (As := [_, _]) (le := [some _, some _]) rfl rfl (Nat.le_of_ble_eq_true rfl) (Nat.le_of_ble_eq_true rfl) rfl ?_
            refine w_iload rfl rfl ?_
            refine w_if_lt rfl (fun h => absurd h (by decide)) (fun _ => ?_)
            refine w_iload rfl rfl ?_
            refine w_pushI rfl ?_
            refine w_icmp_ge rfl (fun h => absurd h (by decide)) (fun _ => ?_)
            refine w_iload rfl rfl ?_
            refine w_getS rfl ?_
            refine w_iload rfl rfl ?_
            refine w_saldv (n := 14) (q := 11) (x := 0) rfl (by decide) rfl (by unfold vp_in; decide) (by decide) rfl ?_
            refine w_icmp_ltZ (b := 0) rfl rfl (by decide) (fun h7 => ?_) (fun h7 => ?_)
            · refine w_pushI rfl ?_
              refine w_iret rfl (Or.inr ⟨rfl, by decide⟩) ?_
              show gW _ _ _ _ _ _ _ _ _ _
              refine w_if_ne rfl (fun h => absurd (by decide) h) (fun _ => ?_)
              refine w_pushI rfl ?_
              refine w_iret rfl (Or.inl rfl) ?_
              exact ⟨congrArg (fun v => some (Value.int v)) (show ((-1) : Int32) = f1_mend (0) (11) c by have e0 : (0 : Int32).toInt = 0 := rfl; have e1 : (11 : Int32).toInt = 11 := rfl; exact ite_eq_of (fun _ => ite_eq_of (fun hc => absurd hc (by omega)) (fun _ => ite_eq_of (fun hc => absurd hc (by omega)) (fun _ => ite_eq_of (fun hc => absurd hc (by omega)) (fun _ => ite_eq_of (fun hc => absurd hc (by omega)) (fun _ => ite_eq_of (fun hc => absurd hc (by omega)) (fun _ => ite_eq_of (fun hc => absurd hc (by omega)) (fun _ => ite_eq_of (fun _ => ite_eq_of (fun hc => absurd hc (by omega)) (fun _ => rfl)) (fun hc => absurd (by omega) hc)))))))) (fun hc => absurd (by omega) hc)), rfl, fun x hx => rfl, fun x hx => rfl, fun x hx => rfl⟩
            · refine w_iload rfl rfl ?_
              refine w_getS rfl ?_
              refine w_iload rfl rfl ?_
              refine w_saldv (n := 14) (q := 11) (x := 9999) rfl (by decide) rfl (by unfold vp_in; decide) (by decide) rfl ?_
              refine w_icmp_gtZ (b := 9999) rfl rfl (by decide) (fun h8 => ?_) (fun h8 => ?_)
              · refine w_pushI rfl ?_
                refine w_iret rfl (Or.inr ⟨rfl, by decide⟩) ?_
                show gW _ _ _ _ _ _ _ _ _ _
                refine w_if_ne rfl (fun h => absurd (by decide) h) (fun _ => ?_)
                refine w_pushI rfl ?_
                refine w_iret rfl (Or.inl rfl) ?_
                exact ⟨congrArg (fun v => some (Value.int v)) (show ((-1) : Int32) = f1_mend (0) (11) c by have e0 : (0 : Int32).toInt = 0 := rfl; have e1 : (11 : Int32).toInt = 11 := rfl; exact ite_eq_of (fun _ => ite_eq_of (fun hc => absurd hc (by omega)) (fun _ => ite_eq_of (fun hc => absurd hc (by omega)) (fun _ => ite_eq_of (fun hc => absurd hc (by omega)) (fun _ => ite_eq_of (fun hc => absurd hc (by omega)) (fun _ => ite_eq_of (fun hc => absurd hc (by omega)) (fun _ => ite_eq_of (fun hc => absurd hc (by omega)) (fun _ => ite_eq_of (fun _ => ite_eq_of (fun hc => absurd hc (by omega)) (fun _ => rfl)) (fun hc => absurd (by omega) hc)))))))) (fun hc => absurd (by omega) hc)), rfl, fun x hx => rfl, fun x hx => rfl, fun x hx => rfl⟩
              · refine w_pushI rfl ?_
                refine w_goto rfl ?_
                refine w_iret rfl (Or.inr ⟨rfl, by decide⟩) ?_
                show gW _ _ _ _ _ _ _ _ _ _
                refine w_if_ne rfl (fun _ => ?_) (fun h => absurd h (by decide))
                refine w_aload rfl rfl ?_
                refine w_getR (r := 8) rfl rfl (hR _ fmR_0_1) ?_
                refine w_iload rfl rfl ?_
                refine w_topv (z := 0) (by decide) ?_
                refine w_iload rfl rfl ?_
                refine w_topv (z := 11) (by decide) ?_
                refine w_callVi (As := [_, _]) (le := [some _, some _, some _, none]) rfl rfl rfl (Nat.le_of_ble_eq_true rfl) (Nat.le_of_ble_eq_true rfl) rfl ?_
                refine w_aload rfl rfl ?_
                refine w_iload rfl rfl ?_
                refine w_iload rfl rfl ?_
                refine w_callVi (As := [_, _]) (le := [some _, some _, some _]) rfl rfl rfl (Nat.le_of_ble_eq_true rfl) (Nat.le_of_ble_eq_true rfl) rfl ?_
                refine w_iload rfl rfl ?_
                refine w_if_lt rfl (fun h => absurd h (by decide)) (fun _ => ?_)
                refine w_iload rfl rfl ?_
                refine w_pushI rfl ?_
                refine w_icmp_lt rfl (fun _ => ?_) (fun h => absurd (by decide) h)
                refine w_iload rfl rfl ?_
                refine w_pushI rfl ?_
                refine w_icmp_ge rfl (fun _ => ?_) (fun h => absurd (by decide) h)
                refine w_iload rfl rfl ?_
                refine w_if_ne rfl (fun h => absurd (by decide) h) (fun _ => ?_)
                refine w_pushI rfl ?_
                refine w_iload rfl rfl ?_
                refine w_iaddv (z := 51) rfl (by decide) ?_
                refine w_goto rfl ?_
                refine w_iret rfl (Or.inl rfl) ?_
                show gW _ _ _ _ _ _ _ _ _ _
                refine w_istore rfl rfl ?_
                refine w_iload rfl rfl ?_
                refine w_if_ge rfl (fun _ => ?_) (fun h => absurd (by decide) h)
                refine w_aload rfl rfl ?_
                refine w_getR (r := 9) rfl rfl (hR _ fmR_8_1) ?_
                refine w_iload rfl rfl ?_
                refine w_ialdv (j := 51) (x := 20) rfl rfl (by decide) (by unfold vp_in; decide) (hI _ fmI_9_51) ?_
                refine w_iret rfl (Or.inl rfl) ?_
                show gW _ _ _ _ _ _ _ _ _ _
                refine w_istore rfl rfl ?_
                refine w_iload rfl rfl ?_
                refine w_iload rfl rfl ?_
                refine w_icmp_eqZ (a := 20) rfl (by decide) rfl (fun h9 => ?_) (fun h9 => ?_)
                · obtain rfl : c = 20 := i_is (show c.toInt = 20 by omega) (by decide)
                  refine w_iload rfl rfl ?_
                  refine w_iret rfl (Or.inl rfl) ?_
                  exact ⟨congrArg (fun v => some (Value.int v)) (show (20 : Int32) = f1_mend (0) (11) (20) by have e0 : (0 : Int32).toInt = 0 := rfl; have e1 : (11 : Int32).toInt = 11 := rfl; have e2 : (20 : Int32).toInt = 20 := rfl; exact ite_eq_of (fun _ => ite_eq_of (fun hc => absurd hc (by omega)) (fun _ => ite_eq_of (fun hc => absurd hc (by omega)) (fun _ => ite_eq_of (fun hc => absurd hc (by omega)) (fun _ => ite_eq_of (fun hc => absurd hc (by omega)) (fun _ => ite_eq_of (fun hc => absurd hc (by omega)) (fun _ => ite_eq_of (fun hc => absurd hc (by omega)) (fun _ => ite_eq_of (fun _ => ite_eq_of (fun _ => rfl) (fun hc => absurd (by omega) hc)) (fun hc => absurd (by omega) hc)))))))) (fun hc => absurd (by omega) hc)), rfl, fun x hx => rfl, fun x hx => rfl, fun x hx => rfl⟩
                · refine w_aload rfl rfl ?_
                  refine w_getR (r := 29) rfl rfl (hR _ fmR_0_9) ?_
                  refine w_iload rfl rfl ?_
                  refine w_topv (z := 0) (by decide) ?_
                  refine w_iload rfl rfl ?_
                  refine w_topv (z := 11) (by decide) ?_
                  refine w_iload rfl rfl ?_
                  refine w_iload rfl rfl ?_
                  refine w_callVi (As := [_, _, _, _]) (le := [some _, some _, some _, some _, some _]) rfl rfl rfl (Nat.le_of_ble_eq_true rfl) (Nat.le_of_ble_eq_true rfl) rfl ?_
                  refine w_aload rfl rfl ?_
                  refine w_getIv (x := 0) rfl rfl (hI _ fmI_29_5) ?_
                  refine w_pushI rfl ?_
                  refine w_icmp_lt rfl (fun _ => ?_) (fun h => absurd (by decide) h)
                  refine w_aload rfl rfl ?_
                  refine w_getR (r := 30) rfl rfl (hR _ fmR_29_1) ?_
                  refine w_aload rfl rfl ?_
                  refine w_getIv (x := 0) rfl rfl (hI _ fmI_29_5) ?_
                  refine w_iload rfl rfl ?_
                  refine w_iastv (j := 0) rfl rfl (by decide) (by unfold vp_in; decide) rfl ?_
                  refine w_aload rfl rfl ?_
                  refine w_getR (r := 31) rfl rfl (hR _ fmR_29_2) ?_
                  refine w_aload rfl rfl ?_
                  refine w_getIv (x := 0) rfl rfl ((gU_n (by decide)).trans (hI _ fmI_29_5)) ?_
                  refine w_iload rfl rfl ?_
                  refine w_iastv (j := 0) rfl rfl (by decide) (by unfold vp_in; decide) rfl ?_
                  refine w_aload rfl rfl ?_
                  refine w_getR (r := 32) rfl rfl (hR _ fmR_29_3) ?_
                  refine w_aload rfl rfl ?_
                  refine w_getIv (x := 0) rfl rfl ((gU_n (by decide)).trans ((gU_n (by decide)).trans (hI _ fmI_29_5))) ?_
                  refine w_iload rfl rfl ?_
                  refine w_iastv (j := 0) rfl rfl (by decide) (by unfold vp_in; decide) rfl ?_
                  refine w_aload rfl rfl ?_
                  refine w_getR (r := 33) rfl rfl (hR _ fmR_29_4) ?_
                  refine w_aload rfl rfl ?_
                  refine w_getIv (x := 0) rfl rfl ((gU_n (by decide)).trans ((gU_n (by decide)).trans ((gU_n (by decide)).trans (hI _ fmI_29_5)))) ?_
                  refine w_iload rfl rfl ?_
                  refine w_iastv (j := 0) rfl rfl (by decide) (by unfold vp_in; decide) rfl ?_
                  refine w_aload rfl rfl ?_
                  refine w_dup rfl rfl ?_
                  refine w_getIv (x := 0) rfl rfl ((gU_n (by decide)).trans ((gU_n (by decide)).trans ((gU_n (by decide)).trans ((gU_n (by decide)).trans (hI _ fmI_29_5))))) ?_
                  refine w_pushI rfl ?_
                  refine w_iaddv (z := 1) rfl (by decide) ?_
                  refine w_putI rfl rfl ?_
                  refine w_aload rfl rfl ?_
                  refine w_aload rfl rfl ?_
                  refine w_getIv (x := 1) rfl rfl (gU_e) ?_
                  refine w_putI rfl rfl ?_
                  refine w_vret rfl rfl ?_
                  show gW _ _ _ _ _ _ _ _ _ _
                  refine w_aload rfl rfl ?_
                  refine w_getR (r := 8) rfl rfl (hR _ fmR_0_1) ?_
                  refine w_iload rfl rfl ?_
                  refine w_topv (z := 0) (by decide) ?_
                  refine w_iload rfl rfl ?_
                  refine w_topv (z := 11) (by decide) ?_
                  refine w_iload rfl rfl ?_
                  refine w_callVi (As := [_, _, _]) (le := [some _, some _, some _, some _, none]) rfl rfl rfl (Nat.le_of_ble_eq_true rfl) (Nat.le_of_ble_eq_true rfl) rfl ?_
                  refine w_aload rfl rfl ?_
                  refine w_iload rfl rfl ?_
                  refine w_iload rfl rfl ?_
                  refine w_callVi (As := [_, _]) (le := [some _, some _, some _]) rfl rfl rfl (Nat.le_of_ble_eq_true rfl) (Nat.le_of_ble_eq_true rfl) rfl ?_
                  refine w_iload rfl rfl ?_
                  refine w_if_lt rfl (fun h => absurd h (by decide)) (fun _ => ?_)
                  refine w_iload rfl rfl ?_
                  refine w_pushI rfl ?_
                  refine w_icmp_lt rfl (fun _ => ?_) (fun h => absurd (by decide) h)
                  refine w_iload rfl rfl ?_
                  refine w_pushI rfl ?_
                  refine w_icmp_ge rfl (fun _ => ?_) (fun h => absurd (by decide) h)
                  refine w_iload rfl rfl ?_
                  refine w_if_ne rfl (fun h => absurd (by decide) h) (fun _ => ?_)
                  refine w_pushI rfl ?_
                  refine w_iload rfl rfl ?_
                  refine w_iaddv (z := 51) rfl (by decide) ?_
                  refine w_goto rfl ?_
                  refine w_iret rfl (Or.inl rfl) ?_
                  show gW _ _ _ _ _ _ _ _ _ _
                  refine w_istore rfl rfl ?_
                  refine w_iload rfl rfl ?_
                  refine w_if_lt rfl (fun h => absurd h (by decide)) (fun _ => ?_)
                  refine w_aload rfl rfl ?_
                  refine w_getR (r := 9) rfl rfl (hR _ fmR_8_1) ?_
                  refine w_iload rfl rfl ?_
                  refine w_iload rfl rfl ?_
                  refine w_iastv (j := 51) rfl rfl (by decide) (by unfold vp_in; decide) rfl ?_
                  refine w_vret rfl rfl ?_
                  show gW _ _ _ _ _ _ _ _ _ _
                  refine w_iload rfl rfl ?_
                  refine w_iret rfl (Or.inl rfl) ?_
                  exact ⟨congrArg (fun v => some (Value.int v)) (show (20 : Int32) = f1_mend (0) (11) c by have e0 : (0 : Int32).toInt = 0 := rfl; have e1 : (11 : Int32).toInt = 11 := rfl; exact ite_eq_of (fun _ => ite_eq_of (fun hc => absurd hc (by omega)) (fun _ => ite_eq_of (fun hc => absurd hc (by omega)) (fun _ => ite_eq_of (fun hc => absurd hc (by omega)) (fun _ => ite_eq_of (fun hc => absurd hc (by omega)) (fun _ => ite_eq_of (fun hc => absurd hc (by omega)) (fun _ => ite_eq_of (fun hc => absurd hc (by omega)) (fun _ => ite_eq_of (fun _ => ite_eq_of (fun _ => rfl) (fun hc => absurd (by omega) hc)) (fun hc => absurd (by omega) hc)))))))) (fun hc => absurd (by omega) hc)), rfl, fun x hx => (gU_o (by omega)).trans ((gU_o (by omega)).trans ((gU_o (by omega)).trans ((gU_o (by omega)).trans ((gU_o (by omega)).trans ((gU_o (by omega)).trans (gU_o (by omega))))))), fun x hx => rfl, fun x hx => rfl⟩
          · obtain rfl : b = 12 := i_is hs6 (by decide)
            refine w_if_lt rfl (fun h => absurd h (by decide)) (fun _ => ?_)
            refine w_pushI rfl ?_
            refine w_goto rfl ?_
            refine w_iret rfl (Or.inr ⟨rfl, by decide⟩) ?_
            show gW _ _ _ _ _ _ _ _ _ _
            refine w_if_eq rfl (fun h => absurd h (by decide)) (fun _ => ?_)
            refine w_iload rfl rfl ?_
            refine w_topv (z := 12) (by decide) ?_
            refine w_iload rfl rfl ?_
            refine w_callSi (As := [_, _]) (le := [some _, some _]) rfl rfl (Nat.le_of_ble_eq_true rfl) (Nat.le_of_ble_eq_true rfl) rfl ?_
            refine w_iload rfl rfl ?_
            refine w_if_lt rfl (fun h => absurd h (by decide)) (fun _ => ?_)
            refine w_iload rfl rfl ?_
            refine w_pushI rfl ?_
            refine w_icmp_ge rfl (fun h => absurd h (by decide)) (fun _ => ?_)
            refine w_iload rfl rfl ?_
            refine w_getS rfl ?_
            refine w_iload rfl rfl ?_
            refine w_saldv (n := 14) (q := 12) (x := 1) rfl (by decide) rfl (by unfold vp_in; decide) (by decide) rfl ?_
            refine w_icmp_ltZ (b := 1) rfl rfl (by decide) (fun h7 => ?_) (fun h7 => ?_)
            · refine w_pushI rfl ?_
              refine w_iret rfl (Or.inr ⟨rfl, by decide⟩) ?_
              show gW _ _ _ _ _ _ _ _ _ _
              refine w_if_ne rfl (fun h => absurd (by decide) h) (fun _ => ?_)
              refine w_pushI rfl ?_
              refine w_iret rfl (Or.inl rfl) ?_
              exact ⟨congrArg (fun v => some (Value.int v)) (show ((-1) : Int32) = f1_mend (0) (12) c by have e0 : (0 : Int32).toInt = 0 := rfl; have e1 : (12 : Int32).toInt = 12 := rfl; exact ite_eq_of (fun _ => ite_eq_of (fun hc => absurd hc (by omega)) (fun _ => ite_eq_of (fun hc => absurd hc (by omega)) (fun _ => ite_eq_of (fun hc => absurd hc (by omega)) (fun _ => ite_eq_of (fun hc => absurd hc (by omega)) (fun _ => ite_eq_of (fun hc => absurd hc (by omega)) (fun _ => ite_eq_of (fun hc => absurd hc (by omega)) (fun _ => ite_eq_of (fun hc => absurd hc (by omega)) (fun _ => ite_eq_of (fun _ => ite_eq_of (fun hc => absurd hc (by omega)) (fun _ => rfl)) (fun hc => absurd (by omega) hc))))))))) (fun hc => absurd (by omega) hc)), rfl, fun x hx => rfl, fun x hx => rfl, fun x hx => rfl⟩
            · refine w_iload rfl rfl ?_
              refine w_getS rfl ?_
              refine w_iload rfl rfl ?_
              refine w_saldv (n := 14) (q := 12) (x := 99) rfl (by decide) rfl (by unfold vp_in; decide) (by decide) rfl ?_
              refine w_icmp_gtZ (b := 99) rfl rfl (by decide) (fun h8 => ?_) (fun h8 => ?_)
              · refine w_pushI rfl ?_
                refine w_iret rfl (Or.inr ⟨rfl, by decide⟩) ?_
                show gW _ _ _ _ _ _ _ _ _ _
                refine w_if_ne rfl (fun h => absurd (by decide) h) (fun _ => ?_)
                refine w_pushI rfl ?_
                refine w_iret rfl (Or.inl rfl) ?_
                exact ⟨congrArg (fun v => some (Value.int v)) (show ((-1) : Int32) = f1_mend (0) (12) c by have e0 : (0 : Int32).toInt = 0 := rfl; have e1 : (12 : Int32).toInt = 12 := rfl; exact ite_eq_of (fun _ => ite_eq_of (fun hc => absurd hc (by omega)) (fun _ => ite_eq_of (fun hc => absurd hc (by omega)) (fun _ => ite_eq_of (fun hc => absurd hc (by omega)) (fun _ => ite_eq_of (fun hc => absurd hc (by omega)) (fun _ => ite_eq_of (fun hc => absurd hc (by omega)) (fun _ => ite_eq_of (fun hc => absurd hc (by omega)) (fun _ => ite_eq_of (fun hc => absurd hc (by omega)) (fun _ => ite_eq_of (fun _ => ite_eq_of (fun hc => absurd hc (by omega)) (fun _ => rfl)) (fun hc => absurd (by omega) hc))))))))) (fun hc => absurd (by omega) hc)), rfl, fun x hx => rfl, fun x hx => rfl, fun x hx => rfl⟩
              · refine w_pushI rfl ?_
                refine w_goto rfl ?_
                refine w_iret rfl (Or.inr ⟨rfl, by decide⟩) ?_
                show gW _ _ _ _ _ _ _ _ _ _
                refine w_if_ne rfl (fun _ => ?_) (fun h => absurd h (by decide))
                refine w_aload rfl rfl ?_
                refine w_getR (r := 8) rfl rfl (hR _ fmR_0_1) ?_
                refine w_iload rfl rfl ?_
                refine w_topv (z := 0) (by decide) ?_
                refine w_iload rfl rfl ?_
                refine w_topv (z := 12) (by decide) ?_
                refine w_callVi (As := [_, _]) (le := [some _, some _, some _, none]) rfl rfl rfl (Nat.le_of_ble_eq_true rfl) (Nat.le_of_ble_eq_true rfl) rfl ?_
                refine w_aload rfl rfl ?_
                refine w_iload rfl rfl ?_
                refine w_iload rfl rfl ?_
                refine w_callVi (As := [_, _]) (le := [some _, some _, some _]) rfl rfl rfl (Nat.le_of_ble_eq_true rfl) (Nat.le_of_ble_eq_true rfl) rfl ?_
                refine w_iload rfl rfl ?_
                refine w_if_lt rfl (fun h => absurd h (by decide)) (fun _ => ?_)
                refine w_iload rfl rfl ?_
                refine w_pushI rfl ?_
                refine w_icmp_lt rfl (fun _ => ?_) (fun h => absurd (by decide) h)
                refine w_iload rfl rfl ?_
                refine w_pushI rfl ?_
                refine w_icmp_ge rfl (fun _ => ?_) (fun h => absurd (by decide) h)
                refine w_iload rfl rfl ?_
                refine w_if_ne rfl (fun h => absurd (by decide) h) (fun _ => ?_)
                refine w_pushI rfl ?_
                refine w_iload rfl rfl ?_
                refine w_iaddv (z := 52) rfl (by decide) ?_
                refine w_goto rfl ?_
                refine w_iret rfl (Or.inl rfl) ?_
                show gW _ _ _ _ _ _ _ _ _ _
                refine w_istore rfl rfl ?_
                refine w_iload rfl rfl ?_
                refine w_if_ge rfl (fun _ => ?_) (fun h => absurd (by decide) h)
                refine w_aload rfl rfl ?_
                refine w_getR (r := 9) rfl rfl (hR _ fmR_8_1) ?_
                refine w_iload rfl rfl ?_
                refine w_ialdv (j := 52) (x := 60) rfl rfl (by decide) (by unfold vp_in; decide) (hI _ fmI_9_52) ?_
                refine w_iret rfl (Or.inl rfl) ?_
                show gW _ _ _ _ _ _ _ _ _ _
                refine w_istore rfl rfl ?_
                refine w_iload rfl rfl ?_
                refine w_iload rfl rfl ?_
                refine w_icmp_eqZ (a := 60) rfl (by decide) rfl (fun h9 => ?_) (fun h9 => ?_)
                · obtain rfl : c = 60 := i_is (show c.toInt = 60 by omega) (by decide)
                  refine w_iload rfl rfl ?_
                  refine w_iret rfl (Or.inl rfl) ?_
                  exact ⟨congrArg (fun v => some (Value.int v)) (show (60 : Int32) = f1_mend (0) (12) (60) by have e0 : (0 : Int32).toInt = 0 := rfl; have e1 : (12 : Int32).toInt = 12 := rfl; have e2 : (60 : Int32).toInt = 60 := rfl; exact ite_eq_of (fun _ => ite_eq_of (fun hc => absurd hc (by omega)) (fun _ => ite_eq_of (fun hc => absurd hc (by omega)) (fun _ => ite_eq_of (fun hc => absurd hc (by omega)) (fun _ => ite_eq_of (fun hc => absurd hc (by omega)) (fun _ => ite_eq_of (fun hc => absurd hc (by omega)) (fun _ => ite_eq_of (fun hc => absurd hc (by omega)) (fun _ => ite_eq_of (fun hc => absurd hc (by omega)) (fun _ => ite_eq_of (fun _ => ite_eq_of (fun _ => rfl) (fun hc => absurd (by omega) hc)) (fun hc => absurd (by omega) hc))))))))) (fun hc => absurd (by omega) hc)), rfl, fun x hx => rfl, fun x hx => rfl, fun x hx => rfl⟩
                · refine w_aload rfl rfl ?_
                  refine w_getR (r := 29) rfl rfl (hR _ fmR_0_9) ?_
                  refine w_iload rfl rfl ?_
                  refine w_topv (z := 0) (by decide) ?_
                  refine w_iload rfl rfl ?_
                  refine w_topv (z := 12) (by decide) ?_
                  refine w_iload rfl rfl ?_
                  refine w_iload rfl rfl ?_
                  refine w_callVi (As := [_, _, _, _]) (le := [some _, some _, some _, some _, some _]) rfl rfl rfl (Nat.le_of_ble_eq_true rfl) (Nat.le_of_ble_eq_true rfl) rfl ?_
                  refine w_aload rfl rfl ?_
                  refine w_getIv (x := 0) rfl rfl (hI _ fmI_29_5) ?_
                  refine w_pushI rfl ?_
                  refine w_icmp_lt rfl (fun _ => ?_) (fun h => absurd (by decide) h)
                  refine w_aload rfl rfl ?_
                  refine w_getR (r := 30) rfl rfl (hR _ fmR_29_1) ?_
                  refine w_aload rfl rfl ?_
                  refine w_getIv (x := 0) rfl rfl (hI _ fmI_29_5) ?_
                  refine w_iload rfl rfl ?_
                  refine w_iastv (j := 0) rfl rfl (by decide) (by unfold vp_in; decide) rfl ?_
                  refine w_aload rfl rfl ?_
                  refine w_getR (r := 31) rfl rfl (hR _ fmR_29_2) ?_
                  refine w_aload rfl rfl ?_
                  refine w_getIv (x := 0) rfl rfl ((gU_n (by decide)).trans (hI _ fmI_29_5)) ?_
                  refine w_iload rfl rfl ?_
                  refine w_iastv (j := 0) rfl rfl (by decide) (by unfold vp_in; decide) rfl ?_
                  refine w_aload rfl rfl ?_
                  refine w_getR (r := 32) rfl rfl (hR _ fmR_29_3) ?_
                  refine w_aload rfl rfl ?_
                  refine w_getIv (x := 0) rfl rfl ((gU_n (by decide)).trans ((gU_n (by decide)).trans (hI _ fmI_29_5))) ?_
                  refine w_iload rfl rfl ?_
                  refine w_iastv (j := 0) rfl rfl (by decide) (by unfold vp_in; decide) rfl ?_
                  refine w_aload rfl rfl ?_
                  refine w_getR (r := 33) rfl rfl (hR _ fmR_29_4) ?_
                  refine w_aload rfl rfl ?_
                  refine w_getIv (x := 0) rfl rfl ((gU_n (by decide)).trans ((gU_n (by decide)).trans ((gU_n (by decide)).trans (hI _ fmI_29_5)))) ?_
                  refine w_iload rfl rfl ?_
                  refine w_iastv (j := 0) rfl rfl (by decide) (by unfold vp_in; decide) rfl ?_
                  refine w_aload rfl rfl ?_
                  refine w_dup rfl rfl ?_
                  refine w_getIv (x := 0) rfl rfl ((gU_n (by decide)).trans ((gU_n (by decide)).trans ((gU_n (by decide)).trans ((gU_n (by decide)).trans (hI _ fmI_29_5))))) ?_
                  refine w_pushI rfl ?_
                  refine w_iaddv (z := 1) rfl (by decide) ?_
                  refine w_putI rfl rfl ?_
                  refine w_aload rfl rfl ?_
                  refine w_aload rfl rfl ?_
                  refine w_getIv (x := 1) rfl rfl (gU_e) ?_
                  refine w_putI rfl rfl ?_
                  refine w_vret rfl rfl ?_
                  show gW _ _ _ _ _ _ _ _ _ _
                  refine w_aload rfl rfl ?_
                  refine w_getR (r := 8) rfl rfl (hR _ fmR_0_1) ?_
                  refine w_iload rfl rfl ?_
                  refine w_topv (z := 0) (by decide) ?_
                  refine w_iload rfl rfl ?_
                  refine w_topv (z := 12) (by decide) ?_
                  refine w_iload rfl rfl ?_
                  refine w_callVi (As := [_, _, _]) (le := [some _, some _, some _, some _, none]) rfl rfl rfl (Nat.le_of_ble_eq_true rfl) (Nat.le_of_ble_eq_true rfl) rfl ?_
                  refine w_aload rfl rfl ?_
                  refine w_iload rfl rfl ?_
                  refine w_iload rfl rfl ?_
                  refine w_callVi (As := [_, _]) (le := [some _, some _, some _]) rfl rfl rfl (Nat.le_of_ble_eq_true rfl) (Nat.le_of_ble_eq_true rfl) rfl ?_
                  refine w_iload rfl rfl ?_
                  refine w_if_lt rfl (fun h => absurd h (by decide)) (fun _ => ?_)
                  refine w_iload rfl rfl ?_
                  refine w_pushI rfl ?_
                  refine w_icmp_lt rfl (fun _ => ?_) (fun h => absurd (by decide) h)
                  refine w_iload rfl rfl ?_
                  refine w_pushI rfl ?_
                  refine w_icmp_ge rfl (fun _ => ?_) (fun h => absurd (by decide) h)
                  refine w_iload rfl rfl ?_
                  refine w_if_ne rfl (fun h => absurd (by decide) h) (fun _ => ?_)
                  refine w_pushI rfl ?_
                  refine w_iload rfl rfl ?_
                  refine w_iaddv (z := 52) rfl (by decide) ?_
                  refine w_goto rfl ?_
                  refine w_iret rfl (Or.inl rfl) ?_
                  show gW _ _ _ _ _ _ _ _ _ _
                  refine w_istore rfl rfl ?_
                  refine w_iload rfl rfl ?_
                  refine w_if_lt rfl (fun h => absurd h (by decide)) (fun _ => ?_)
                  refine w_aload rfl rfl ?_
                  refine w_getR (r := 9) rfl rfl (hR _ fmR_8_1) ?_
                  refine w_iload rfl rfl ?_
                  refine w_iload rfl rfl ?_
                  refine w_iastv (j := 52) rfl rfl (by decide) (by unfold vp_in; decide) rfl ?_
                  refine w_vret rfl rfl ?_
                  show gW _ _ _ _ _ _ _ _ _ _
                  refine w_iload rfl rfl ?_
                  refine w_iret rfl (Or.inl rfl) ?_
                  exact ⟨congrArg (fun v => some (Value.int v)) (show (60 : Int32) = f1_mend (0) (12) c by have e0 : (0 : Int32).toInt = 0 := rfl; have e1 : (12 : Int32).toInt = 12 := rfl; exact ite_eq_of (fun _ => ite_eq_of (fun hc => absurd hc (by omega)) (fun _ => ite_eq_of (fun hc => absurd hc (by omega)) (fun _ => ite_eq_of (fun hc => absurd hc (by omega)) (fun _ => ite_eq_of (fun hc => absurd hc (by omega)) (fun _ => ite_eq_of (fun hc => absurd hc (by omega)) (fun _ => ite_eq_of (fun hc => absurd hc (by omega)) (fun _ => ite_eq_of (fun hc => absurd hc (by omega)) (fun _ => ite_eq_of (fun _ => ite_eq_of (fun _ => rfl) (fun hc => absurd (by omega) hc)) (fun hc => absurd (by omega) hc))))))))) (fun hc => absurd (by omega) hc)), rfl, fun x hx => (gU_o (by omega)).trans ((gU_o (by omega)).trans ((gU_o (by omega)).trans ((gU_o (by omega)).trans ((gU_o (by omega)).trans ((gU_o (by omega)).trans (gU_o (by omega))))))), fun x hx => rfl, fun x hx => rfl⟩
          · obtain rfl : b = 13 := i_is hs6 (by decide)
            refine w_if_lt rfl (fun h => absurd h (by decide)) (fun _ => ?_)
            refine w_pushI rfl ?_
            refine w_goto rfl ?_
            refine w_iret rfl (Or.inr ⟨rfl, by decide⟩) ?_
            show gW _ _ _ _ _ _ _ _ _ _
            refine w_if_eq rfl (fun h => absurd h (by decide)) (fun _ => ?_)
            refine w_iload rfl rfl ?_
            refine w_topv (z := 13) (by decide) ?_
            refine w_iload rfl rfl ?_
            refine w_callSi (As := [_, _]) (le := [some _, some _]) rfl rfl (Nat.le_of_ble_eq_true rfl) (Nat.le_of_ble_eq_true rfl) rfl ?_
            refine w_iload rfl rfl ?_
            refine w_if_lt rfl (fun h => absurd h (by decide)) (fun _ => ?_)
            refine w_iload rfl rfl ?_
            refine w_pushI rfl ?_
            refine w_icmp_ge rfl (fun h => absurd h (by decide)) (fun _ => ?_)
            refine w_iload rfl rfl ?_
            refine w_getS rfl ?_
            refine w_iload rfl rfl ?_
            refine w_saldv (n := 14) (q := 13) (x := 1) rfl (by decide) rfl (by unfold vp_in; decide) (by decide) rfl ?_
            refine w_icmp_ltZ (b := 1) rfl rfl (by decide) (fun h7 => ?_) (fun h7 => ?_)
            · refine w_pushI rfl ?_
              refine w_iret rfl (Or.inr ⟨rfl, by decide⟩) ?_
              show gW _ _ _ _ _ _ _ _ _ _
              refine w_if_ne rfl (fun h => absurd (by decide) h) (fun _ => ?_)
              refine w_pushI rfl ?_
              refine w_iret rfl (Or.inl rfl) ?_
              exact ⟨congrArg (fun v => some (Value.int v)) (show ((-1) : Int32) = f1_mend (0) (13) c by have e0 : (0 : Int32).toInt = 0 := rfl; have e1 : (13 : Int32).toInt = 13 := rfl; exact ite_eq_of (fun _ => ite_eq_of (fun hc => absurd hc (by omega)) (fun _ => ite_eq_of (fun hc => absurd hc (by omega)) (fun _ => ite_eq_of (fun hc => absurd hc (by omega)) (fun _ => ite_eq_of (fun hc => absurd hc (by omega)) (fun _ => ite_eq_of (fun hc => absurd hc (by omega)) (fun _ => ite_eq_of (fun hc => absurd hc (by omega)) (fun _ => ite_eq_of (fun hc => absurd hc (by omega)) (fun _ => ite_eq_of (fun hc => absurd hc (by omega)) (fun _ => ite_eq_of (fun _ => ite_eq_of (fun hc => absurd hc (by omega)) (fun _ => rfl)) (fun hc => absurd (by omega) hc)))))))))) (fun hc => absurd (by omega) hc)), rfl, fun x hx => rfl, fun x hx => rfl, fun x hx => rfl⟩
            · refine w_iload rfl rfl ?_
              refine w_getS rfl ?_
              refine w_iload rfl rfl ?_
              refine w_saldv (n := 14) (q := 13) (x := 99) rfl (by decide) rfl (by unfold vp_in; decide) (by decide) rfl ?_
              refine w_icmp_gtZ (b := 99) rfl rfl (by decide) (fun h8 => ?_) (fun h8 => ?_)
              · refine w_pushI rfl ?_
                refine w_iret rfl (Or.inr ⟨rfl, by decide⟩) ?_
                show gW _ _ _ _ _ _ _ _ _ _
                refine w_if_ne rfl (fun h => absurd (by decide) h) (fun _ => ?_)
                refine w_pushI rfl ?_
                refine w_iret rfl (Or.inl rfl) ?_
                exact ⟨congrArg (fun v => some (Value.int v)) (show ((-1) : Int32) = f1_mend (0) (13) c by have e0 : (0 : Int32).toInt = 0 := rfl; have e1 : (13 : Int32).toInt = 13 := rfl; exact ite_eq_of (fun _ => ite_eq_of (fun hc => absurd hc (by omega)) (fun _ => ite_eq_of (fun hc => absurd hc (by omega)) (fun _ => ite_eq_of (fun hc => absurd hc (by omega)) (fun _ => ite_eq_of (fun hc => absurd hc (by omega)) (fun _ => ite_eq_of (fun hc => absurd hc (by omega)) (fun _ => ite_eq_of (fun hc => absurd hc (by omega)) (fun _ => ite_eq_of (fun hc => absurd hc (by omega)) (fun _ => ite_eq_of (fun hc => absurd hc (by omega)) (fun _ => ite_eq_of (fun _ => ite_eq_of (fun hc => absurd hc (by omega)) (fun _ => rfl)) (fun hc => absurd (by omega) hc)))))))))) (fun hc => absurd (by omega) hc)), rfl, fun x hx => rfl, fun x hx => rfl, fun x hx => rfl⟩
              · refine w_pushI rfl ?_
                refine w_goto rfl ?_
                refine w_iret rfl (Or.inr ⟨rfl, by decide⟩) ?_
                show gW _ _ _ _ _ _ _ _ _ _
                refine w_if_ne rfl (fun _ => ?_) (fun h => absurd h (by decide))
                refine w_aload rfl rfl ?_
                refine w_getR (r := 8) rfl rfl (hR _ fmR_0_1) ?_
                refine w_iload rfl rfl ?_
                refine w_topv (z := 0) (by decide) ?_
                refine w_iload rfl rfl ?_
                refine w_topv (z := 13) (by decide) ?_
                refine w_callVi (As := [_, _]) (le := [some _, some _, some _, none]) rfl rfl rfl (Nat.le_of_ble_eq_true rfl) (Nat.le_of_ble_eq_true rfl) rfl ?_
                refine w_aload rfl rfl ?_
                refine w_iload rfl rfl ?_
                refine w_iload rfl rfl ?_
                refine w_callVi (As := [_, _]) (le := [some _, some _, some _]) rfl rfl rfl (Nat.le_of_ble_eq_true rfl) (Nat.le_of_ble_eq_true rfl) rfl ?_
                refine w_iload rfl rfl ?_
                refine w_if_lt rfl (fun h => absurd h (by decide)) (fun _ => ?_)
                refine w_iload rfl rfl ?_
                refine w_pushI rfl ?_
                refine w_icmp_lt rfl (fun _ => ?_) (fun h => absurd (by decide) h)
                refine w_iload rfl rfl ?_
                refine w_pushI rfl ?_
                refine w_icmp_ge rfl (fun _ => ?_) (fun h => absurd (by decide) h)
                refine w_iload rfl rfl ?_
                refine w_if_ne rfl (fun h => absurd (by decide) h) (fun _ => ?_)
                refine w_pushI rfl ?_
                refine w_iload rfl rfl ?_
                refine w_iaddv (z := 53) rfl (by decide) ?_
                refine w_goto rfl ?_
                refine w_iret rfl (Or.inl rfl) ?_
                show gW _ _ _ _ _ _ _ _ _ _
                refine w_istore rfl rfl ?_
                refine w_iload rfl rfl ?_
                refine w_if_ge rfl (fun _ => ?_) (fun h => absurd (by decide) h)
                refine w_aload rfl rfl ?_
                refine w_getR (r := 9) rfl rfl (hR _ fmR_8_1) ?_
                refine w_iload rfl rfl ?_
                refine w_ialdv (j := 53) (x := 20) rfl rfl (by decide) (by unfold vp_in; decide) (hI _ fmI_9_53) ?_
                refine w_iret rfl (Or.inl rfl) ?_
                show gW _ _ _ _ _ _ _ _ _ _
                refine w_istore rfl rfl ?_
                refine w_iload rfl rfl ?_
                refine w_iload rfl rfl ?_
                refine w_icmp_eqZ (a := 20) rfl (by decide) rfl (fun h9 => ?_) (fun h9 => ?_)
                · obtain rfl : c = 20 := i_is (show c.toInt = 20 by omega) (by decide)
                  refine w_iload rfl rfl ?_
                  refine w_iret rfl (Or.inl rfl) ?_
                  exact ⟨congrArg (fun v => some (Value.int v)) (show (20 : Int32) = f1_mend (0) (13) (20) by have e0 : (0 : Int32).toInt = 0 := rfl; have e1 : (13 : Int32).toInt = 13 := rfl; have e2 : (20 : Int32).toInt = 20 := rfl; exact ite_eq_of (fun _ => ite_eq_of (fun hc => absurd hc (by omega)) (fun _ => ite_eq_of (fun hc => absurd hc (by omega)) (fun _ => ite_eq_of (fun hc => absurd hc (by omega)) (fun _ => ite_eq_of (fun hc => absurd hc (by omega)) (fun _ => ite_eq_of (fun hc => absurd hc (by omega)) (fun _ => ite_eq_of (fun hc => absurd hc (by omega)) (fun _ => ite_eq_of (fun hc => absurd hc (by omega)) (fun _ => ite_eq_of (fun hc => absurd hc (by omega)) (fun _ => ite_eq_of (fun _ => ite_eq_of (fun _ => rfl) (fun hc => absurd (by omega) hc)) (fun hc => absurd (by omega) hc)))))))))) (fun hc => absurd (by omega) hc)), rfl, fun x hx => rfl, fun x hx => rfl, fun x hx => rfl⟩
                · refine w_aload rfl rfl ?_
                  refine w_getR (r := 29) rfl rfl (hR _ fmR_0_9) ?_
                  refine w_iload rfl rfl ?_
                  refine w_topv (z := 0) (by decide) ?_
                  refine w_iload rfl rfl ?_
                  refine w_topv (z := 13) (by decide) ?_
                  refine w_iload rfl rfl ?_
                  refine w_iload rfl rfl ?_
                  refine w_callVi (As := [_, _, _, _]) (le := [some _, some _, some _, some _, some _]) rfl rfl rfl (Nat.le_of_ble_eq_true rfl) (Nat.le_of_ble_eq_true rfl) rfl ?_
                  refine w_aload rfl rfl ?_
                  refine w_getIv (x := 0) rfl rfl (hI _ fmI_29_5) ?_
                  refine w_pushI rfl ?_
                  refine w_icmp_lt rfl (fun _ => ?_) (fun h => absurd (by decide) h)
                  refine w_aload rfl rfl ?_
                  refine w_getR (r := 30) rfl rfl (hR _ fmR_29_1) ?_
                  refine w_aload rfl rfl ?_
                  refine w_getIv (x := 0) rfl rfl (hI _ fmI_29_5) ?_
                  refine w_iload rfl rfl ?_
                  refine w_iastv (j := 0) rfl rfl (by decide) (by unfold vp_in; decide) rfl ?_
                  refine w_aload rfl rfl ?_
                  refine w_getR (r := 31) rfl rfl (hR _ fmR_29_2) ?_
                  refine w_aload rfl rfl ?_
                  refine w_getIv (x := 0) rfl rfl ((gU_n (by decide)).trans (hI _ fmI_29_5)) ?_
                  refine w_iload rfl rfl ?_
                  refine w_iastv (j := 0) rfl rfl (by decide) (by unfold vp_in; decide) rfl ?_
                  refine w_aload rfl rfl ?_
                  refine w_getR (r := 32) rfl rfl (hR _ fmR_29_3) ?_
                  refine w_aload rfl rfl ?_
                  refine w_getIv (x := 0) rfl rfl ((gU_n (by decide)).trans ((gU_n (by decide)).trans (hI _ fmI_29_5))) ?_
                  refine w_iload rfl rfl ?_
                  refine w_iastv (j := 0) rfl rfl (by decide) (by unfold vp_in; decide) rfl ?_
                  refine w_aload rfl rfl ?_
                  refine w_getR (r := 33) rfl rfl (hR _ fmR_29_4) ?_
                  refine w_aload rfl rfl ?_
                  refine w_getIv (x := 0) rfl rfl ((gU_n (by decide)).trans ((gU_n (by decide)).trans ((gU_n (by decide)).trans (hI _ fmI_29_5)))) ?_
                  refine w_iload rfl rfl ?_
                  refine w_iastv (j := 0) rfl rfl (by decide) (by unfold vp_in; decide) rfl ?_
                  refine w_aload rfl rfl ?_
                  refine w_dup rfl rfl ?_
                  refine w_getIv (x := 0) rfl rfl ((gU_n (by decide)).trans ((gU_n (by decide)).trans ((gU_n (by decide)).trans ((gU_n (by decide)).trans (hI _ fmI_29_5))))) ?_
                  refine w_pushI rfl ?_
                  refine w_iaddv (z := 1) rfl (by decide) ?_
                  refine w_putI rfl rfl ?_
                  refine w_aload rfl rfl ?_
                  refine w_aload rfl rfl ?_
                  refine w_getIv (x := 1) rfl rfl (gU_e) ?_
                  refine w_putI rfl rfl ?_
                  refine w_vret rfl rfl ?_
                  show gW _ _ _ _ _ _ _ _ _ _
                  refine w_aload rfl rfl ?_
                  refine w_getR (r := 8) rfl rfl (hR _ fmR_0_1) ?_
                  refine w_iload rfl rfl ?_
                  refine w_topv (z := 0) (by decide) ?_
                  refine w_iload rfl rfl ?_
                  refine w_topv (z := 13) (by decide) ?_
                  refine w_iload rfl rfl ?_
                  refine w_callVi (As := [_, _, _]) (le := [some _, some _, some _, some _, none]) rfl rfl rfl (Nat.le_of_ble_eq_true rfl) (Nat.le_of_ble_eq_true rfl) rfl ?_
                  refine w_aload rfl rfl ?_
                  refine w_iload rfl rfl ?_
                  refine w_iload rfl rfl ?_
                  refine w_callVi (As := [_, _]) (le := [some _, some _, some _]) rfl rfl rfl (Nat.le_of_ble_eq_true rfl) (Nat.le_of_ble_eq_true rfl) rfl ?_
                  refine w_iload rfl rfl ?_
                  refine w_if_lt rfl (fun h => absurd h (by decide)) (fun _ => ?_)
                  refine w_iload rfl rfl ?_
                  refine w_pushI rfl ?_
                  refine w_icmp_lt rfl (fun _ => ?_) (fun h => absurd (by decide) h)
                  refine w_iload rfl rfl ?_
                  refine w_pushI rfl ?_
                  refine w_icmp_ge rfl (fun _ => ?_) (fun h => absurd (by decide) h)
                  refine w_iload rfl rfl ?_
                  refine w_if_ne rfl (fun h => absurd (by decide) h) (fun _ => ?_)
                  refine w_pushI rfl ?_
                  refine w_iload rfl rfl ?_
                  refine w_iaddv (z := 53) rfl (by decide) ?_
                  refine w_goto rfl ?_
                  refine w_iret rfl (Or.inl rfl) ?_
                  show gW _ _ _ _ _ _ _ _ _ _
                  refine w_istore rfl rfl ?_
                  refine w_iload rfl rfl ?_
                  refine w_if_lt rfl (fun h => absurd h (by decide)) (fun _ => ?_)
                  refine w_aload rfl rfl ?_
                  refine w_getR (r := 9) rfl rfl (hR _ fmR_8_1) ?_
                  refine w_iload rfl rfl ?_
                  refine w_iload rfl rfl ?_
                  refine w_iastv (j := 53) rfl rfl (by decide) (by unfold vp_in; decide) rfl ?_
                  refine w_vret rfl rfl ?_
                  show gW _ _ _ _ _ _ _ _ _ _
                  refine w_iload rfl rfl ?_
                  refine w_iret rfl (Or.inl rfl) ?_
                  exact ⟨congrArg (fun v => some (Value.int v)) (show (20 : Int32) = f1_mend (0) (13) c by have e0 : (0 : Int32).toInt = 0 := rfl; have e1 : (13 : Int32).toInt = 13 := rfl; exact ite_eq_of (fun _ => ite_eq_of (fun hc => absurd hc (by omega)) (fun _ => ite_eq_of (fun hc => absurd hc (by omega)) (fun _ => ite_eq_of (fun hc => absurd hc (by omega)) (fun _ => ite_eq_of (fun hc => absurd hc (by omega)) (fun _ => ite_eq_of (fun hc => absurd hc (by omega)) (fun _ => ite_eq_of (fun hc => absurd hc (by omega)) (fun _ => ite_eq_of (fun hc => absurd hc (by omega)) (fun _ => ite_eq_of (fun hc => absurd hc (by omega)) (fun _ => ite_eq_of (fun _ => ite_eq_of (fun _ => rfl) (fun hc => absurd (by omega) hc)) (fun hc => absurd (by omega) hc)))))))))) (fun hc => absurd (by omega) hc)), rfl, fun x hx => (gU_o (by omega)).trans ((gU_o (by omega)).trans ((gU_o (by omega)).trans ((gU_o (by omega)).trans ((gU_o (by omega)).trans ((gU_o (by omega)).trans (gU_o (by omega))))))), fun x hx => rfl, fun x hx => rfl⟩
      · refine w_aload rfl rfl ?_
        refine w_iload rfl rfl ?_
        refine w_callVi (As := [_]) (le := [some _, some _]) rfl rfl rfl (Nat.le_of_ble_eq_true rfl) (Nat.le_of_ble_eq_true rfl) rfl ?_
        refine w_iload rfl rfl ?_
        refine w_if_ltZ rfl rfl (fun h4 => ?_) (fun h4 => ?_)
        · refine w_pushI rfl ?_
          refine w_iret rfl (Or.inr ⟨rfl, by decide⟩) ?_
          show gW _ _ _ _ _ _ _ _ _ _
          refine w_if_eq rfl (fun _ => ?_) (fun h => absurd (by decide) h)
          refine w_pushI rfl ?_
          refine w_iret rfl (Or.inl rfl) ?_
          show gW _ _ _ _ _ _ _ _ _ _
          refine w_if_lt rfl (fun _ => ?_) (fun h => absurd (by decide) h)
          refine w_pushI rfl ?_
          refine w_iret rfl (Or.inr ⟨rfl, by decide⟩) ?_
          show gW _ _ _ _ _ _ _ _ _ _
          refine w_if_eq rfl (fun _ => ?_) (fun h => absurd (by decide) h)
          refine w_pushI rfl ?_
          refine w_iret rfl (Or.inl rfl) ?_
          exact ⟨congrArg (fun v => some (Value.int v)) (show ((-1) : Int32) = f1_mend a b c by exact ite_eq_of (fun hc => absurd hc (by omega)) (fun _ => rfl)), rfl, fun x hx => rfl, fun x hx => rfl, fun x hx => rfl⟩
        · refine w_iload rfl rfl ?_
          refine w_aload rfl rfl ?_
          refine w_getIv (x := 0) rfl rfl (hI _ fmI_8_2) ?_
          refine w_icmp_geZ (b := 0) rfl rfl (by decide) (fun h5 => ?_) (fun h5 => by exfalso; omega)
          refine w_pushI rfl ?_
          refine w_iret rfl (Or.inr ⟨rfl, by decide⟩) ?_
          show gW _ _ _ _ _ _ _ _ _ _
          refine w_if_eq rfl (fun _ => ?_) (fun h => absurd (by decide) h)
          refine w_pushI rfl ?_
          refine w_iret rfl (Or.inl rfl) ?_
          show gW _ _ _ _ _ _ _ _ _ _
          refine w_if_lt rfl (fun _ => ?_) (fun h => absurd (by decide) h)
          refine w_pushI rfl ?_
          refine w_iret rfl (Or.inr ⟨rfl, by decide⟩) ?_
          show gW _ _ _ _ _ _ _ _ _ _
          refine w_if_eq rfl (fun _ => ?_) (fun h => absurd (by decide) h)
          refine w_pushI rfl ?_
          refine w_iret rfl (Or.inl rfl) ?_
          exact ⟨congrArg (fun v => some (Value.int v)) (show ((-1) : Int32) = f1_mend a b c by exact ite_eq_of (fun hc => ite_eq_of (fun hc => absurd hc (by omega)) (fun _ => ite_eq_of (fun hc => absurd hc (by omega)) (fun _ => ite_eq_of (fun hc => absurd hc (by omega)) (fun _ => ite_eq_of (fun hc => absurd hc (by omega)) (fun _ => ite_eq_of (fun hc => absurd hc (by omega)) (fun _ => ite_eq_of (fun hc => absurd hc (by omega)) (fun _ => ite_eq_of (fun hc => absurd hc (by omega)) (fun _ => ite_eq_of (fun hc => absurd hc (by omega)) (fun _ => ite_eq_of (fun hc => absurd hc (by omega)) (fun _ => rfl)))))))))) (fun hc => rfl)), rfl, fun x hx => rfl, fun x hx => rfl, fun x hx => rfl⟩
    · refine w_pushI rfl ?_
      refine w_iret rfl (Or.inl rfl) ?_
      show gW _ _ _ _ _ _ _ _ _ _
      refine w_if_lt rfl (fun _ => ?_) (fun h => absurd (by decide) h)
      refine w_pushI rfl ?_
      refine w_iret rfl (Or.inr ⟨rfl, by decide⟩) ?_
      show gW _ _ _ _ _ _ _ _ _ _
      refine w_if_eq rfl (fun _ => ?_) (fun h => absurd (by decide) h)
      refine w_pushI rfl ?_
      refine w_iret rfl (Or.inl rfl) ?_
      exact ⟨congrArg (fun v => some (Value.int v)) (show ((-1) : Int32) = f1_mend a b c by exact ite_eq_of (fun hc => ite_eq_of (fun hc => absurd hc (by omega)) (fun _ => ite_eq_of (fun hc => absurd hc (by omega)) (fun _ => ite_eq_of (fun hc => absurd hc (by omega)) (fun _ => ite_eq_of (fun hc => absurd hc (by omega)) (fun _ => ite_eq_of (fun hc => absurd hc (by omega)) (fun _ => ite_eq_of (fun hc => absurd hc (by omega)) (fun _ => ite_eq_of (fun hc => absurd hc (by omega)) (fun _ => ite_eq_of (fun hc => absurd hc (by omega)) (fun _ => ite_eq_of (fun hc => absurd hc (by omega)) (fun _ => rfl)))))))))) (fun hc => rfl)), rfl, fun x hx => rfl, fun x hx => rfl, fun x hx => rfl⟩
set_option maxHeartbeats 40000000 in
set_option maxRecDepth 100000 in
theorem a2_mend {X : Nat × (Nat → Int32)} {d : Nat} {I : Nat → Nat → Int32} {L : Nat → Nat → Int64} {R : Nat → Nat → Option Nat} (hI : ∀ q ∈ gFlI, 50 ≤ q.1 → I q.1 q.2.1 = q.2.2) (hL : ∀ q ∈ gFlL, 50 ≤ q.1 → L q.1 q.2.1 = q.2.2) (hR : ∀ q ∈ gFlR, 50 ≤ q.1 → R q.1 q.2.1 = some q.2.2) (a : Int32) (b : Int32) (c : Int32) : gW X (d + 12) 162 0 0 0 (gEn 162 [.ref 50, .int a, .int b, .int c]) [] (gK 87, I, L, R) (fun r _ => r = some (.int (f1_mend a b c))) := by
  show gW _ _ _ _ _ _ [some (.ref 50), some (.int a), some (.int b), some (.int c)] _ _ _
  refine w_aload rfl rfl ?_
  refine w_iload rfl rfl ?_
  refine w_iload rfl rfl ?_
  refine w_callVi (As := [_, _]) (le := [some _, some _, some _]) rfl rfl rfl (Nat.le_of_ble_eq_true rfl) (Nat.le_of_ble_eq_true rfl) rfl ?_
  refine w_iload rfl rfl ?_
  refine w_pushI rfl ?_
  refine w_pushI rfl ?_
  refine w_callSi (As := [_, _, _]) (le := [some _, some _, some _]) rfl rfl (Nat.le_of_ble_eq_true rfl) (Nat.le_of_ble_eq_true rfl) rfl ?_
  refine w_iload rfl rfl ?_
  refine w_iload rfl rfl ?_
  refine w_icmp_ltZ (b := 0) rfl rfl (by decide) (fun h1 => ?_) (fun h1 => ?_)
  · refine w_pushI rfl ?_
    refine w_iret rfl (Or.inr ⟨rfl, by decide⟩) ?_
    show gW _ _ _ _ _ _ _ _ _ _
    refine w_if_eq rfl (fun _ => ?_) (fun h => absurd (by decide) h)
    refine w_iload rfl rfl ?_
    refine w_pushI rfl ?_
    refine w_pushI rfl ?_
    refine w_callSi (As := [_, _, _]) (le := [some _, some _, some _]) rfl rfl (Nat.le_of_ble_eq_true rfl) (Nat.le_of_ble_eq_true rfl) rfl ?_
    refine w_iload rfl rfl ?_
    refine w_iload rfl rfl ?_
    refine w_icmp_ltZ (b := 5) rfl rfl (by decide) (fun h2 => ?_) (fun h2 => by exfalso; omega)
    refine w_pushI rfl ?_
    refine w_iret rfl (Or.inr ⟨rfl, by decide⟩) ?_
    show gW _ _ _ _ _ _ _ _ _ _
    refine w_if_eq rfl (fun _ => ?_) (fun h => absurd (by decide) h)
    refine w_pushI rfl ?_
    refine w_iret rfl (Or.inr ⟨rfl, by decide⟩) ?_
    show gW _ _ _ _ _ _ _ _ _ _
    refine w_if_eq rfl (fun _ => ?_) (fun h => absurd (by decide) h)
    refine w_pushI rfl ?_
    refine w_iret rfl (Or.inl rfl) ?_
    exact congrArg (fun v => some (Value.int v)) (show ((-1) : Int32) = f1_mend a b c by exact ite_eq_of (fun hc => ite_eq_of (fun hc => absurd hc (by omega)) (fun _ => ite_eq_of (fun hc => absurd hc (by omega)) (fun _ => ite_eq_of (fun hc => absurd hc (by omega)) (fun _ => ite_eq_of (fun hc => absurd hc (by omega)) (fun _ => ite_eq_of (fun hc => absurd hc (by omega)) (fun _ => ite_eq_of (fun hc => absurd hc (by omega)) (fun _ => ite_eq_of (fun hc => absurd hc (by omega)) (fun _ => ite_eq_of (fun hc => absurd hc (by omega)) (fun _ => ite_eq_of (fun hc => absurd hc (by omega)) (fun _ => rfl)))))))))) (fun hc => rfl))
  · refine w_iload rfl rfl ?_
    refine w_iload rfl rfl ?_
    refine w_icmp_gtZ (b := 4) rfl rfl (by decide) (fun h2 => ?_) (fun h2 => ?_)
    · refine w_pushI rfl ?_
      refine w_iret rfl (Or.inr ⟨rfl, by decide⟩) ?_
      show gW _ _ _ _ _ _ _ _ _ _
      refine w_if_eq rfl (fun _ => ?_) (fun h => absurd (by decide) h)
      refine w_iload rfl rfl ?_
      refine w_pushI rfl ?_
      refine w_pushI rfl ?_
      refine w_callSi (As := [_, _, _]) (le := [some _, some _, some _]) rfl rfl (Nat.le_of_ble_eq_true rfl) (Nat.le_of_ble_eq_true rfl) rfl ?_
      refine w_iload rfl rfl ?_
      refine w_iload rfl rfl ?_
      refine w_icmp_ltZ (b := 5) rfl rfl (by decide) (fun h3 => by exfalso; omega) (fun h3 => ?_)
      refine w_iload rfl rfl ?_
      refine w_iload rfl rfl ?_
      refine w_icmp_gtZ (b := 13) rfl rfl (by decide) (fun h4 => ?_) (fun h4 => ?_)
      · refine w_pushI rfl ?_
        refine w_iret rfl (Or.inr ⟨rfl, by decide⟩) ?_
        show gW _ _ _ _ _ _ _ _ _ _
        refine w_if_eq rfl (fun _ => ?_) (fun h => absurd (by decide) h)
        refine w_pushI rfl ?_
        refine w_iret rfl (Or.inr ⟨rfl, by decide⟩) ?_
        show gW _ _ _ _ _ _ _ _ _ _
        refine w_if_eq rfl (fun _ => ?_) (fun h => absurd (by decide) h)
        refine w_pushI rfl ?_
        refine w_iret rfl (Or.inl rfl) ?_
        exact congrArg (fun v => some (Value.int v)) (show ((-1) : Int32) = f1_mend a b c by exact ite_eq_of (fun hc => ite_eq_of (fun hc => absurd hc (by omega)) (fun _ => ite_eq_of (fun hc => absurd hc (by omega)) (fun _ => ite_eq_of (fun hc => absurd hc (by omega)) (fun _ => ite_eq_of (fun hc => absurd hc (by omega)) (fun _ => ite_eq_of (fun hc => absurd hc (by omega)) (fun _ => ite_eq_of (fun hc => absurd hc (by omega)) (fun _ => ite_eq_of (fun hc => absurd hc (by omega)) (fun _ => ite_eq_of (fun hc => absurd hc (by omega)) (fun _ => ite_eq_of (fun hc => absurd hc (by omega)) (fun _ => rfl)))))))))) (fun hc => rfl))
      · refine w_pushI rfl ?_
        refine w_goto rfl ?_
        refine w_iret rfl (Or.inr ⟨rfl, by decide⟩) ?_
        show gW _ _ _ _ _ _ _ _ _ _
        refine w_if_eq rfl (fun h => absurd h (by decide)) (fun _ => ?_)
        refine w_iload rfl rfl ?_
        refine w_if_neZ rfl rfl (fun h5 => ?_) (fun h5 => ?_)
        · refine w_pushI rfl ?_
          refine w_iret rfl (Or.inr ⟨rfl, by decide⟩) ?_
          show gW _ _ _ _ _ _ _ _ _ _
          refine w_if_eq rfl (fun _ => ?_) (fun h => absurd (by decide) h)
          refine w_pushI rfl ?_
          refine w_iret rfl (Or.inl rfl) ?_
          exact congrArg (fun v => some (Value.int v)) (show ((-1) : Int32) = f1_mend a b c by exact ite_eq_of (fun hc => ite_eq_of (fun hc => ite_eq_of (fun hc => (by exfalso; omega)) (fun hc => rfl)) (fun hc => ite_eq_of (fun hc => ite_eq_of (fun hc => (by exfalso; omega)) (fun hc => rfl)) (fun hc => ite_eq_of (fun hc => ite_eq_of (fun hc => (by exfalso; omega)) (fun hc => rfl)) (fun hc => ite_eq_of (fun hc => ite_eq_of (fun hc => (by exfalso; omega)) (fun hc => rfl)) (fun hc => ite_eq_of (fun hc => ite_eq_of (fun hc => (by exfalso; omega)) (fun hc => rfl)) (fun hc => ite_eq_of (fun hc => ite_eq_of (fun hc => (by exfalso; omega)) (fun hc => rfl)) (fun hc => ite_eq_of (fun hc => ite_eq_of (fun hc => (by exfalso; omega)) (fun hc => rfl)) (fun hc => ite_eq_of (fun hc => ite_eq_of (fun hc => (by exfalso; omega)) (fun hc => rfl)) (fun hc => ite_eq_of (fun hc => ite_eq_of (fun hc => (by exfalso; omega)) (fun hc => rfl)) (fun hc => rfl)))))))))) (fun hc => rfl))
        · obtain rfl : a = 0 := i_is (show a.toInt = 0 by omega) (by decide)
          refine w_pushI rfl ?_
          refine w_goto rfl ?_
          refine w_iret rfl (Or.inr ⟨rfl, by decide⟩) ?_
          show gW _ _ _ _ _ _ _ _ _ _
          refine w_if_eq rfl (fun h => absurd h (by decide)) (fun _ => ?_)
          refine w_iload rfl rfl ?_
          refine w_iload rfl rfl ?_
          refine w_callSi (As := [_, _]) (le := [some _, some _]) rfl rfl (Nat.le_of_ble_eq_true rfl) (Nat.le_of_ble_eq_true rfl) rfl ?_
          refine w_iload rfl rfl ?_
          rcases (show b.toInt = 5 ∨ b.toInt = 6 ∨ b.toInt = 7 ∨ b.toInt = 8 ∨ b.toInt = 9 ∨ b.toInt = 10 ∨ b.toInt = 11 ∨ b.toInt = 12 ∨ b.toInt = 13 by omega) with hs7 | hs7 | hs7 | hs7 | hs7 | hs7 | hs7 | hs7 | hs7
          · obtain rfl : b = 5 := i_is hs7 (by decide)
            refine w_swI (x := 5) (tg := 144) rfl (show ∃ q ∈ [((3 : Int32), 60), ((4 : Int32), 68), ((5 : Int32), 144), ((6 : Int32), 76), ((7 : Int32), 85), ((8 : Int32), 93), ((9 : Int32), 102), ((10 : Int32), 111), ((11 : Int32), 119), ((12 : Int32), 128), ((13 : Int32), 136)], (5 : Int32) = q.1 by decide) (show ∀ q ∈ [((3 : Int32), 60), ((4 : Int32), 68), ((5 : Int32), 144), ((6 : Int32), 76), ((7 : Int32), 85), ((8 : Int32), 93), ((9 : Int32), 102), ((10 : Int32), 111), ((11 : Int32), 119), ((12 : Int32), 128), ((13 : Int32), 136)], (5 : Int32) = q.1 → q.2 = 144 by decide) ?_
            refine w_iload rfl rfl ?_
            refine w_pushI rfl ?_
            refine w_pushI rfl ?_
            refine w_callSi (As := [_, _, _]) (le := [some _, some _, some _]) rfl rfl (Nat.le_of_ble_eq_true rfl) (Nat.le_of_ble_eq_true rfl) rfl ?_
            refine w_iload rfl rfl ?_
            refine w_iload rfl rfl ?_
            refine w_icmp_ltZ (b := 0) rfl rfl (by decide) (fun h8 => ?_) (fun h8 => ?_)
            · refine w_pushI rfl ?_
              refine w_iret rfl (Or.inr ⟨rfl, by decide⟩) ?_
              show gW _ _ _ _ _ _ _ _ _ _
              refine w_iret rfl (Or.inr ⟨rfl, by decide⟩) ?_
              show gW _ _ _ _ _ _ _ _ _ _
              refine w_if_eq rfl (fun _ => ?_) (fun h => absurd (by decide) h)
              refine w_pushI rfl ?_
              refine w_iret rfl (Or.inl rfl) ?_
              exact congrArg (fun v => some (Value.int v)) (show ((-1) : Int32) = f1_mend (0) (5) c by have e0 : (0 : Int32).toInt = 0 := rfl; have e1 : (5 : Int32).toInt = 5 := rfl; exact ite_eq_of (fun _ => ite_eq_of (fun _ => ite_eq_of (fun hc => absurd hc (by omega)) (fun _ => rfl)) (fun hc => absurd (by omega) hc)) (fun hc => absurd (by omega) hc))
            · refine w_iload rfl rfl ?_
              refine w_iload rfl rfl ?_
              refine w_icmp_gtZ (b := 99) rfl rfl (by decide) (fun h9 => ?_) (fun h9 => ?_)
              · refine w_pushI rfl ?_
                refine w_iret rfl (Or.inr ⟨rfl, by decide⟩) ?_
                show gW _ _ _ _ _ _ _ _ _ _
                refine w_iret rfl (Or.inr ⟨rfl, by decide⟩) ?_
                show gW _ _ _ _ _ _ _ _ _ _
                refine w_if_eq rfl (fun _ => ?_) (fun h => absurd (by decide) h)
                refine w_pushI rfl ?_
                refine w_iret rfl (Or.inl rfl) ?_
                exact congrArg (fun v => some (Value.int v)) (show ((-1) : Int32) = f1_mend (0) (5) c by have e0 : (0 : Int32).toInt = 0 := rfl; have e1 : (5 : Int32).toInt = 5 := rfl; exact ite_eq_of (fun _ => ite_eq_of (fun _ => ite_eq_of (fun hc => absurd hc (by omega)) (fun _ => rfl)) (fun hc => absurd (by omega) hc)) (fun hc => absurd (by omega) hc))
              · refine w_pushI rfl ?_
                refine w_goto rfl ?_
                refine w_iret rfl (Or.inr ⟨rfl, by decide⟩) ?_
                show gW _ _ _ _ _ _ _ _ _ _
                refine w_iret rfl (Or.inr ⟨rfl, by decide⟩) ?_
                show gW _ _ _ _ _ _ _ _ _ _
                refine w_if_eq rfl (fun h => absurd h (by decide)) (fun _ => ?_)
                refine w_aload rfl rfl ?_
                refine w_iload rfl rfl ?_
                refine w_topv (z := 5) (by decide) ?_
                refine w_iload rfl rfl ?_
                refine w_topv (z := 0) (by decide) ?_
                refine w_iload rfl rfl ?_
                refine w_callVi (As := [_, _, _]) (le := [some _, some _, some _, some _, none, none]) rfl rfl rfl (Nat.le_of_ble_eq_true rfl) (Nat.le_of_ble_eq_true rfl) rfl ?_
                refine w_aload rfl rfl ?_
                refine w_iload rfl rfl ?_
                refine w_iload rfl rfl ?_
                refine w_callVi (As := [_, _]) (le := [some _, some _, some _]) rfl rfl rfl (Nat.le_of_ble_eq_true rfl) (Nat.le_of_ble_eq_true rfl) rfl ?_
                refine w_iload rfl rfl ?_
                refine w_swO (x := 5) rfl (show ∀ q ∈ [((0 : Int32), 36), ((1 : Int32), 43), ((2 : Int32), 50), ((3 : Int32), 57), ((4 : Int32), 64)], ¬ (5 : Int32) = q.1 by decide) ?_
                refine w_aload rfl rfl ?_
                refine w_getR (r := 56) rfl rfl (hR _ fmR_50_7 (by decide)) ?_
                refine w_iload rfl rfl ?_
                refine w_pushI rfl ?_
                refine w_isubv (z := 0) rfl (by decide) ?_
                refine w_ialdv (j := 0) (x := 0) rfl rfl (by decide) (by unfold vp_in; decide) (hI _ fmI_56_0 (by decide)) ?_
                refine w_iret rfl (Or.inl rfl) ?_
                show gW _ _ _ _ _ _ _ _ _ _
                refine w_istore rfl rfl ?_
                refine w_iload rfl rfl ?_
                refine w_iload rfl rfl ?_
                refine w_icmp_neZ (a := 0) rfl (by decide) rfl (fun h10 => ?_) (fun h10 => ?_)
                · refine w_aload rfl rfl ?_
                  refine w_pushI rfl ?_
                  refine w_putI rfl rfl ?_
                  refine w_aload rfl rfl ?_
                  refine w_getIv (x := 0) rfl rfl ((gU_n (by decide)).trans (hI _ fmI_50_8 (by decide))) ?_
                  refine w_pushI rfl ?_
                  refine w_icmp_ne rfl (fun _ => ?_) (fun h => absurd h (by decide))
                  refine w_aload rfl rfl ?_
                  refine w_getR (r := 57) rfl rfl (hR _ fmR_50_10 (by decide)) ?_
                  refine w_aload rfl rfl ?_
                  refine w_getIv (x := 0) rfl rfl ((gU_n (by decide)).trans (hI _ fmI_50_8 (by decide))) ?_
                  refine w_iload rfl rfl ?_
                  refine w_iastv (j := 0) rfl rfl (by decide) (by unfold vp_in; decide) rfl ?_
                  refine w_aload rfl rfl ?_
                  refine w_getR (r := 58) rfl rfl (hR _ fmR_50_11 (by decide)) ?_
                  refine w_aload rfl rfl ?_
                  refine w_getIv (x := 0) rfl rfl ((gU_n (by decide)).trans ((gU_n (by decide)).trans (hI _ fmI_50_8 (by decide)))) ?_
                  refine w_iload rfl rfl ?_
                  refine w_iastv (j := 0) rfl rfl (by decide) (by unfold vp_in; decide) rfl ?_
                  refine w_aload rfl rfl ?_
                  refine w_getR (r := 59) rfl rfl (hR _ fmR_50_12 (by decide)) ?_
                  refine w_aload rfl rfl ?_
                  refine w_getIv (x := 0) rfl rfl ((gU_n (by decide)).trans ((gU_n (by decide)).trans ((gU_n (by decide)).trans (hI _ fmI_50_8 (by decide))))) ?_
                  refine w_iload rfl rfl ?_
                  refine w_iastv (j := 0) rfl rfl (by decide) (by unfold vp_in; decide) rfl ?_
                  refine w_aload rfl rfl ?_
                  refine w_getR (r := 60) rfl rfl (hR _ fmR_50_13 (by decide)) ?_
                  refine w_aload rfl rfl ?_
                  refine w_getIv (x := 0) rfl rfl ((gU_n (by decide)).trans ((gU_n (by decide)).trans ((gU_n (by decide)).trans ((gU_n (by decide)).trans (hI _ fmI_50_8 (by decide)))))) ?_
                  refine w_iload rfl rfl ?_
                  refine w_iastv (j := 0) rfl rfl (by decide) (by unfold vp_in; decide) rfl ?_
                  refine w_aload rfl rfl ?_
                  refine w_dup rfl rfl ?_
                  refine w_getIv (x := 0) rfl rfl ((gU_n (by decide)).trans ((gU_n (by decide)).trans ((gU_n (by decide)).trans ((gU_n (by decide)).trans ((gU_n (by decide)).trans (hI _ fmI_50_8 (by decide))))))) ?_
                  refine w_pushI rfl ?_
                  refine w_iaddv (z := 1) rfl (by decide) ?_
                  refine w_putI rfl rfl ?_
                  refine w_aload rfl rfl ?_
                  refine w_iload rfl rfl ?_
                  refine w_iload rfl rfl ?_
                  refine w_iload rfl rfl ?_
                  refine w_callVi (As := [_, _, _]) (le := [some _, some _, some _, some _]) rfl rfl rfl (Nat.le_of_ble_eq_true rfl) (Nat.le_of_ble_eq_true rfl) rfl ?_
                  refine w_iload rfl rfl ?_
                  refine w_swO (x := 5) rfl (show ∀ q ∈ [((0 : Int32), 36), ((1 : Int32), 46), ((2 : Int32), 56), ((3 : Int32), 66), ((4 : Int32), 76)], ¬ (5 : Int32) = q.1 by decide) ?_
                  refine w_aload rfl rfl ?_
                  refine w_getR (r := 56) rfl rfl (hR _ fmR_50_7 (by decide)) ?_
                  refine w_iload rfl rfl ?_
                  refine w_pushI rfl ?_
                  refine w_isubv (z := 0) rfl (by decide) ?_
                  refine w_iload rfl rfl ?_
                  refine w_iastv (j := 0) rfl rfl (by decide) (by unfold vp_in; decide) rfl ?_
                  refine w_vret rfl rfl ?_
                  show gW _ _ _ _ _ _ _ _ _ _
                  refine w_iload rfl rfl ?_
                  refine w_iret rfl (Or.inl rfl) ?_
                  show gW _ _ _ _ _ _ _ _ _ _
                  refine w_goto rfl ?_
                  refine w_iret rfl (Or.inl rfl) ?_
                  exact congrArg (fun v => some (Value.int v)) (show (0 : Int32) = f1_mend (0) (5) c by have e0 : (0 : Int32).toInt = 0 := rfl; have e1 : (5 : Int32).toInt = 5 := rfl; exact ite_eq_of (fun _ => ite_eq_of (fun _ => ite_eq_of (fun _ => rfl) (fun hc => absurd (by omega) hc)) (fun hc => absurd (by omega) hc)) (fun hc => absurd (by omega) hc))
                · obtain rfl : c = 0 := i_is (show c.toInt = 0 by omega) (by decide)
                  refine w_iload rfl rfl ?_
                  refine w_iret rfl (Or.inl rfl) ?_
                  show gW _ _ _ _ _ _ _ _ _ _
                  refine w_goto rfl ?_
                  refine w_iret rfl (Or.inl rfl) ?_
                  exact congrArg (fun v => some (Value.int v)) (show (0 : Int32) = f1_mend (0) (5) (0) by have e0 : (0 : Int32).toInt = 0 := rfl; have e1 : (5 : Int32).toInt = 5 := rfl; have e2 : (0 : Int32).toInt = 0 := rfl; exact ite_eq_of (fun _ => ite_eq_of (fun _ => ite_eq_of (fun _ => rfl) (fun hc => absurd (by omega) hc)) (fun hc => absurd (by omega) hc)) (fun hc => absurd (by omega) hc))
          · obtain rfl : b = 6 := i_is hs7 (by decide)
            refine w_swI (x := 6) (tg := 76) rfl (show ∃ q ∈ [((3 : Int32), 60), ((4 : Int32), 68), ((5 : Int32), 144), ((6 : Int32), 76), ((7 : Int32), 85), ((8 : Int32), 93), ((9 : Int32), 102), ((10 : Int32), 111), ((11 : Int32), 119), ((12 : Int32), 128), ((13 : Int32), 136)], (6 : Int32) = q.1 by decide) (show ∀ q ∈ [((3 : Int32), 60), ((4 : Int32), 68), ((5 : Int32), 144), ((6 : Int32), 76), ((7 : Int32), 85), ((8 : Int32), 93), ((9 : Int32), 102), ((10 : Int32), 111), ((11 : Int32), 119), ((12 : Int32), 128), ((13 : Int32), 136)], (6 : Int32) = q.1 → q.2 = 76 by decide) ?_
            refine w_iload rfl rfl ?_
            refine w_pushI rfl ?_
            refine w_pushI rfl ?_
            refine w_callSi (As := [_, _, _]) (le := [some _, some _, some _]) rfl rfl (Nat.le_of_ble_eq_true rfl) (Nat.le_of_ble_eq_true rfl) rfl ?_
            refine w_iload rfl rfl ?_
            refine w_iload rfl rfl ?_
            refine w_icmp_ltZ (b := 0) rfl rfl (by decide) (fun h8 => ?_) (fun h8 => ?_)
            · refine w_pushI rfl ?_
              refine w_iret rfl (Or.inr ⟨rfl, by decide⟩) ?_
              show gW _ _ _ _ _ _ _ _ _ _
              refine w_iret rfl (Or.inr ⟨rfl, by decide⟩) ?_
              show gW _ _ _ _ _ _ _ _ _ _
              refine w_if_eq rfl (fun _ => ?_) (fun h => absurd (by decide) h)
              refine w_pushI rfl ?_
              refine w_iret rfl (Or.inl rfl) ?_
              exact congrArg (fun v => some (Value.int v)) (show ((-1) : Int32) = f1_mend (0) (6) c by have e0 : (0 : Int32).toInt = 0 := rfl; have e1 : (6 : Int32).toInt = 6 := rfl; exact ite_eq_of (fun _ => ite_eq_of (fun hc => absurd hc (by omega)) (fun _ => ite_eq_of (fun _ => ite_eq_of (fun hc => absurd hc (by omega)) (fun _ => rfl)) (fun hc => absurd (by omega) hc))) (fun hc => absurd (by omega) hc))
            · refine w_iload rfl rfl ?_
              refine w_iload rfl rfl ?_
              refine w_icmp_gtZ (b := 999) rfl rfl (by decide) (fun h9 => ?_) (fun h9 => ?_)
              · refine w_pushI rfl ?_
                refine w_iret rfl (Or.inr ⟨rfl, by decide⟩) ?_
                show gW _ _ _ _ _ _ _ _ _ _
                refine w_iret rfl (Or.inr ⟨rfl, by decide⟩) ?_
                show gW _ _ _ _ _ _ _ _ _ _
                refine w_if_eq rfl (fun _ => ?_) (fun h => absurd (by decide) h)
                refine w_pushI rfl ?_
                refine w_iret rfl (Or.inl rfl) ?_
                exact congrArg (fun v => some (Value.int v)) (show ((-1) : Int32) = f1_mend (0) (6) c by have e0 : (0 : Int32).toInt = 0 := rfl; have e1 : (6 : Int32).toInt = 6 := rfl; exact ite_eq_of (fun _ => ite_eq_of (fun hc => absurd hc (by omega)) (fun _ => ite_eq_of (fun _ => ite_eq_of (fun hc => absurd hc (by omega)) (fun _ => rfl)) (fun hc => absurd (by omega) hc))) (fun hc => absurd (by omega) hc))
              · refine w_pushI rfl ?_
                refine w_goto rfl ?_
                refine w_iret rfl (Or.inr ⟨rfl, by decide⟩) ?_
                show gW _ _ _ _ _ _ _ _ _ _
                refine w_iret rfl (Or.inr ⟨rfl, by decide⟩) ?_
                show gW _ _ _ _ _ _ _ _ _ _
                refine w_if_eq rfl (fun h => absurd h (by decide)) (fun _ => ?_)
                refine w_aload rfl rfl ?_
                refine w_iload rfl rfl ?_
                refine w_topv (z := 6) (by decide) ?_
                refine w_iload rfl rfl ?_
                refine w_topv (z := 0) (by decide) ?_
                refine w_iload rfl rfl ?_
                refine w_callVi (As := [_, _, _]) (le := [some _, some _, some _, some _, none, none]) rfl rfl rfl (Nat.le_of_ble_eq_true rfl) (Nat.le_of_ble_eq_true rfl) rfl ?_
                refine w_aload rfl rfl ?_
                refine w_iload rfl rfl ?_
                refine w_iload rfl rfl ?_
                refine w_callVi (As := [_, _]) (le := [some _, some _, some _]) rfl rfl rfl (Nat.le_of_ble_eq_true rfl) (Nat.le_of_ble_eq_true rfl) rfl ?_
                refine w_iload rfl rfl ?_
                refine w_swO (x := 6) rfl (show ∀ q ∈ [((0 : Int32), 36), ((1 : Int32), 43), ((2 : Int32), 50), ((3 : Int32), 57), ((4 : Int32), 64)], ¬ (6 : Int32) = q.1 by decide) ?_
                refine w_aload rfl rfl ?_
                refine w_getR (r := 56) rfl rfl (hR _ fmR_50_7 (by decide)) ?_
                refine w_iload rfl rfl ?_
                refine w_pushI rfl ?_
                refine w_isubv (z := 1) rfl (by decide) ?_
                refine w_ialdv (j := 1) (x := 180) rfl rfl (by decide) (by unfold vp_in; decide) (hI _ fmI_56_1 (by decide)) ?_
                refine w_iret rfl (Or.inl rfl) ?_
                show gW _ _ _ _ _ _ _ _ _ _
                refine w_istore rfl rfl ?_
                refine w_iload rfl rfl ?_
                refine w_iload rfl rfl ?_
                refine w_icmp_neZ (a := 180) rfl (by decide) rfl (fun h10 => ?_) (fun h10 => ?_)
                · refine w_aload rfl rfl ?_
                  refine w_pushI rfl ?_
                  refine w_putI rfl rfl ?_
                  refine w_aload rfl rfl ?_
                  refine w_getIv (x := 0) rfl rfl ((gU_n (by decide)).trans (hI _ fmI_50_8 (by decide))) ?_
                  refine w_pushI rfl ?_
                  refine w_icmp_ne rfl (fun _ => ?_) (fun h => absurd h (by decide))
                  refine w_aload rfl rfl ?_
                  refine w_getR (r := 57) rfl rfl (hR _ fmR_50_10 (by decide)) ?_
                  refine w_aload rfl rfl ?_
                  refine w_getIv (x := 0) rfl rfl ((gU_n (by decide)).trans (hI _ fmI_50_8 (by decide))) ?_
                  refine w_iload rfl rfl ?_
                  refine w_iastv (j := 0) rfl rfl (by decide) (by unfold vp_in; decide) rfl ?_
                  refine w_aload rfl rfl ?_
                  refine w_getR (r := 58) rfl rfl (hR _ fmR_50_11 (by decide)) ?_
                  refine w_aload rfl rfl ?_
                  refine w_getIv (x := 0) rfl rfl ((gU_n (by decide)).trans ((gU_n (by decide)).trans (hI _ fmI_50_8 (by decide)))) ?_
                  refine w_iload rfl rfl ?_
                  refine w_iastv (j := 0) rfl rfl (by decide) (by unfold vp_in; decide) rfl ?_
                  refine w_aload rfl rfl ?_
                  refine w_getR (r := 59) rfl rfl (hR _ fmR_50_12 (by decide)) ?_
                  refine w_aload rfl rfl ?_
                  refine w_getIv (x := 0) rfl rfl ((gU_n (by decide)).trans ((gU_n (by decide)).trans ((gU_n (by decide)).trans (hI _ fmI_50_8 (by decide))))) ?_
                  refine w_iload rfl rfl ?_
                  refine w_iastv (j := 0) rfl rfl (by decide) (by unfold vp_in; decide) rfl ?_
                  refine w_aload rfl rfl ?_
                  refine w_getR (r := 60) rfl rfl (hR _ fmR_50_13 (by decide)) ?_
                  refine w_aload rfl rfl ?_
                  refine w_getIv (x := 0) rfl rfl ((gU_n (by decide)).trans ((gU_n (by decide)).trans ((gU_n (by decide)).trans ((gU_n (by decide)).trans (hI _ fmI_50_8 (by decide)))))) ?_
                  refine w_iload rfl rfl ?_
                  refine w_iastv (j := 0) rfl rfl (by decide) (by unfold vp_in; decide) rfl ?_
                  refine w_aload rfl rfl ?_
                  refine w_dup rfl rfl ?_
                  refine w_getIv (x := 0) rfl rfl ((gU_n (by decide)).trans ((gU_n (by decide)).trans ((gU_n (by decide)).trans ((gU_n (by decide)).trans ((gU_n (by decide)).trans (hI _ fmI_50_8 (by decide))))))) ?_
                  refine w_pushI rfl ?_
                  refine w_iaddv (z := 1) rfl (by decide) ?_
                  refine w_putI rfl rfl ?_
                  refine w_aload rfl rfl ?_
                  refine w_iload rfl rfl ?_
                  refine w_iload rfl rfl ?_
                  refine w_iload rfl rfl ?_
                  refine w_callVi (As := [_, _, _]) (le := [some _, some _, some _, some _]) rfl rfl rfl (Nat.le_of_ble_eq_true rfl) (Nat.le_of_ble_eq_true rfl) rfl ?_
                  refine w_iload rfl rfl ?_
                  refine w_swO (x := 6) rfl (show ∀ q ∈ [((0 : Int32), 36), ((1 : Int32), 46), ((2 : Int32), 56), ((3 : Int32), 66), ((4 : Int32), 76)], ¬ (6 : Int32) = q.1 by decide) ?_
                  refine w_aload rfl rfl ?_
                  refine w_getR (r := 56) rfl rfl (hR _ fmR_50_7 (by decide)) ?_
                  refine w_iload rfl rfl ?_
                  refine w_pushI rfl ?_
                  refine w_isubv (z := 1) rfl (by decide) ?_
                  refine w_iload rfl rfl ?_
                  refine w_iastv (j := 1) rfl rfl (by decide) (by unfold vp_in; decide) rfl ?_
                  refine w_vret rfl rfl ?_
                  show gW _ _ _ _ _ _ _ _ _ _
                  refine w_iload rfl rfl ?_
                  refine w_iret rfl (Or.inl rfl) ?_
                  show gW _ _ _ _ _ _ _ _ _ _
                  refine w_goto rfl ?_
                  refine w_iret rfl (Or.inl rfl) ?_
                  exact congrArg (fun v => some (Value.int v)) (show (180 : Int32) = f1_mend (0) (6) c by have e0 : (0 : Int32).toInt = 0 := rfl; have e1 : (6 : Int32).toInt = 6 := rfl; exact ite_eq_of (fun _ => ite_eq_of (fun hc => absurd hc (by omega)) (fun _ => ite_eq_of (fun _ => ite_eq_of (fun _ => rfl) (fun hc => absurd (by omega) hc)) (fun hc => absurd (by omega) hc))) (fun hc => absurd (by omega) hc))
                · obtain rfl : c = 180 := i_is (show c.toInt = 180 by omega) (by decide)
                  refine w_iload rfl rfl ?_
                  refine w_iret rfl (Or.inl rfl) ?_
                  show gW _ _ _ _ _ _ _ _ _ _
                  refine w_goto rfl ?_
                  refine w_iret rfl (Or.inl rfl) ?_
                  exact congrArg (fun v => some (Value.int v)) (show (180 : Int32) = f1_mend (0) (6) (180) by have e0 : (0 : Int32).toInt = 0 := rfl; have e1 : (6 : Int32).toInt = 6 := rfl; have e2 : (180 : Int32).toInt = 180 := rfl; exact ite_eq_of (fun _ => ite_eq_of (fun hc => absurd hc (by omega)) (fun _ => ite_eq_of (fun _ => ite_eq_of (fun _ => rfl) (fun hc => absurd (by omega) hc)) (fun hc => absurd (by omega) hc))) (fun hc => absurd (by omega) hc))
          · obtain rfl : b = 7 := i_is hs7 (by decide)
            refine w_swI (x := 7) (tg := 85) rfl (show ∃ q ∈ [((3 : Int32), 60), ((4 : Int32), 68), ((5 : Int32), 144), ((6 : Int32), 76), ((7 : Int32), 85), ((8 : Int32), 93), ((9 : Int32), 102), ((10 : Int32), 111), ((11 : Int32), 119), ((12 : Int32), 128), ((13 : Int32), 136)], (7 : Int32) = q.1 by decide) (show ∀ q ∈ [((3 : Int32), 60), ((4 : Int32), 68), ((5 : Int32), 144), ((6 : Int32), 76), ((7 : Int32), 85), ((8 : Int32), 93), ((9 : Int32), 102), ((10 : Int32), 111), ((11 : Int32), 119), ((12 : Int32), 128), ((13 : Int32), 136)], (7 : Int32) = q.1 → q.2 = 85 by decide) ?_
            refine w_iload rfl rfl ?_
            refine w_pushI rfl ?_
            refine w_pushI rfl ?_
            refine w_callSi (As := [_, _, _]) (le := [some _, some _, some _]) rfl rfl (Nat.le_of_ble_eq_true rfl) (Nat.le_of_ble_eq_true rfl) rfl ?_
            refine w_iload rfl rfl ?_
            refine w_iload rfl rfl ?_
            refine w_icmp_ltZ (b := 1) rfl rfl (by decide) (fun h8 => ?_) (fun h8 => ?_)
            · refine w_pushI rfl ?_
              refine w_iret rfl (Or.inr ⟨rfl, by decide⟩) ?_
              show gW _ _ _ _ _ _ _ _ _ _
              refine w_iret rfl (Or.inr ⟨rfl, by decide⟩) ?_
              show gW _ _ _ _ _ _ _ _ _ _
              refine w_if_eq rfl (fun _ => ?_) (fun h => absurd (by decide) h)
              refine w_pushI rfl ?_
              refine w_iret rfl (Or.inl rfl) ?_
              exact congrArg (fun v => some (Value.int v)) (show ((-1) : Int32) = f1_mend (0) (7) c by have e0 : (0 : Int32).toInt = 0 := rfl; have e1 : (7 : Int32).toInt = 7 := rfl; exact ite_eq_of (fun _ => ite_eq_of (fun hc => absurd hc (by omega)) (fun _ => ite_eq_of (fun hc => absurd hc (by omega)) (fun _ => ite_eq_of (fun _ => ite_eq_of (fun hc => absurd hc (by omega)) (fun _ => rfl)) (fun hc => absurd (by omega) hc)))) (fun hc => absurd (by omega) hc))
            · refine w_iload rfl rfl ?_
              refine w_iload rfl rfl ?_
              refine w_icmp_gtZ (b := 99) rfl rfl (by decide) (fun h9 => ?_) (fun h9 => ?_)
              · refine w_pushI rfl ?_
                refine w_iret rfl (Or.inr ⟨rfl, by decide⟩) ?_
                show gW _ _ _ _ _ _ _ _ _ _
                refine w_iret rfl (Or.inr ⟨rfl, by decide⟩) ?_
                show gW _ _ _ _ _ _ _ _ _ _
                refine w_if_eq rfl (fun _ => ?_) (fun h => absurd (by decide) h)
                refine w_pushI rfl ?_
                refine w_iret rfl (Or.inl rfl) ?_
                exact congrArg (fun v => some (Value.int v)) (show ((-1) : Int32) = f1_mend (0) (7) c by have e0 : (0 : Int32).toInt = 0 := rfl; have e1 : (7 : Int32).toInt = 7 := rfl; exact ite_eq_of (fun _ => ite_eq_of (fun hc => absurd hc (by omega)) (fun _ => ite_eq_of (fun hc => absurd hc (by omega)) (fun _ => ite_eq_of (fun _ => ite_eq_of (fun hc => absurd hc (by omega)) (fun _ => rfl)) (fun hc => absurd (by omega) hc)))) (fun hc => absurd (by omega) hc))
              · refine w_pushI rfl ?_
                refine w_goto rfl ?_
                refine w_iret rfl (Or.inr ⟨rfl, by decide⟩) ?_
                show gW _ _ _ _ _ _ _ _ _ _
                refine w_iret rfl (Or.inr ⟨rfl, by decide⟩) ?_
                show gW _ _ _ _ _ _ _ _ _ _
                refine w_if_eq rfl (fun h => absurd h (by decide)) (fun _ => ?_)
                refine w_aload rfl rfl ?_
                refine w_iload rfl rfl ?_
                refine w_topv (z := 7) (by decide) ?_
                refine w_iload rfl rfl ?_
                refine w_topv (z := 0) (by decide) ?_
                refine w_iload rfl rfl ?_
                refine w_callVi (As := [_, _, _]) (le := [some _, some _, some _, some _, none, none]) rfl rfl rfl (Nat.le_of_ble_eq_true rfl) (Nat.le_of_ble_eq_true rfl) rfl ?_
                refine w_aload rfl rfl ?_
                refine w_iload rfl rfl ?_
                refine w_iload rfl rfl ?_
                refine w_callVi (As := [_, _]) (le := [some _, some _, some _]) rfl rfl rfl (Nat.le_of_ble_eq_true rfl) (Nat.le_of_ble_eq_true rfl) rfl ?_
                refine w_iload rfl rfl ?_
                refine w_swO (x := 7) rfl (show ∀ q ∈ [((0 : Int32), 36), ((1 : Int32), 43), ((2 : Int32), 50), ((3 : Int32), 57), ((4 : Int32), 64)], ¬ (7 : Int32) = q.1 by decide) ?_
                refine w_aload rfl rfl ?_
                refine w_getR (r := 56) rfl rfl (hR _ fmR_50_7 (by decide)) ?_
                refine w_iload rfl rfl ?_
                refine w_pushI rfl ?_
                refine w_isubv (z := 2) rfl (by decide) ?_
                refine w_ialdv (j := 2) (x := 20) rfl rfl (by decide) (by unfold vp_in; decide) (hI _ fmI_56_2 (by decide)) ?_
                refine w_iret rfl (Or.inl rfl) ?_
                show gW _ _ _ _ _ _ _ _ _ _
                refine w_istore rfl rfl ?_
                refine w_iload rfl rfl ?_
                refine w_iload rfl rfl ?_
                refine w_icmp_neZ (a := 20) rfl (by decide) rfl (fun h10 => ?_) (fun h10 => ?_)
                · refine w_aload rfl rfl ?_
                  refine w_pushI rfl ?_
                  refine w_putI rfl rfl ?_
                  refine w_aload rfl rfl ?_
                  refine w_getIv (x := 0) rfl rfl ((gU_n (by decide)).trans (hI _ fmI_50_8 (by decide))) ?_
                  refine w_pushI rfl ?_
                  refine w_icmp_ne rfl (fun _ => ?_) (fun h => absurd h (by decide))
                  refine w_aload rfl rfl ?_
                  refine w_getR (r := 57) rfl rfl (hR _ fmR_50_10 (by decide)) ?_
                  refine w_aload rfl rfl ?_
                  refine w_getIv (x := 0) rfl rfl ((gU_n (by decide)).trans (hI _ fmI_50_8 (by decide))) ?_
                  refine w_iload rfl rfl ?_
                  refine w_iastv (j := 0) rfl rfl (by decide) (by unfold vp_in; decide) rfl ?_
                  refine w_aload rfl rfl ?_
                  refine w_getR (r := 58) rfl rfl (hR _ fmR_50_11 (by decide)) ?_
                  refine w_aload rfl rfl ?_
                  refine w_getIv (x := 0) rfl rfl ((gU_n (by decide)).trans ((gU_n (by decide)).trans (hI _ fmI_50_8 (by decide)))) ?_
                  refine w_iload rfl rfl ?_
                  refine w_iastv (j := 0) rfl rfl (by decide) (by unfold vp_in; decide) rfl ?_
                  refine w_aload rfl rfl ?_
                  refine w_getR (r := 59) rfl rfl (hR _ fmR_50_12 (by decide)) ?_
                  refine w_aload rfl rfl ?_
                  refine w_getIv (x := 0) rfl rfl ((gU_n (by decide)).trans ((gU_n (by decide)).trans ((gU_n (by decide)).trans (hI _ fmI_50_8 (by decide))))) ?_
                  refine w_iload rfl rfl ?_
                  refine w_iastv (j := 0) rfl rfl (by decide) (by unfold vp_in; decide) rfl ?_
                  refine w_aload rfl rfl ?_
                  refine w_getR (r := 60) rfl rfl (hR _ fmR_50_13 (by decide)) ?_
                  refine w_aload rfl rfl ?_
                  refine w_getIv (x := 0) rfl rfl ((gU_n (by decide)).trans ((gU_n (by decide)).trans ((gU_n (by decide)).trans ((gU_n (by decide)).trans (hI _ fmI_50_8 (by decide)))))) ?_
                  refine w_iload rfl rfl ?_
                  refine w_iastv (j := 0) rfl rfl (by decide) (by unfold vp_in; decide) rfl ?_
                  refine w_aload rfl rfl ?_
                  refine w_dup rfl rfl ?_
                  refine w_getIv (x := 0) rfl rfl ((gU_n (by decide)).trans ((gU_n (by decide)).trans ((gU_n (by decide)).trans ((gU_n (by decide)).trans ((gU_n (by decide)).trans (hI _ fmI_50_8 (by decide))))))) ?_
                  refine w_pushI rfl ?_
                  refine w_iaddv (z := 1) rfl (by decide) ?_
                  refine w_putI rfl rfl ?_
                  refine w_aload rfl rfl ?_
                  refine w_iload rfl rfl ?_
                  refine w_iload rfl rfl ?_
                  refine w_iload rfl rfl ?_
                  refine w_callVi (As := [_, _, _]) (le := [some _, some _, some _, some _]) rfl rfl rfl (Nat.le_of_ble_eq_true rfl) (Nat.le_of_ble_eq_true rfl) rfl ?_
                  refine w_iload rfl rfl ?_
                  refine w_swO (x := 7) rfl (show ∀ q ∈ [((0 : Int32), 36), ((1 : Int32), 46), ((2 : Int32), 56), ((3 : Int32), 66), ((4 : Int32), 76)], ¬ (7 : Int32) = q.1 by decide) ?_
                  refine w_aload rfl rfl ?_
                  refine w_getR (r := 56) rfl rfl (hR _ fmR_50_7 (by decide)) ?_
                  refine w_iload rfl rfl ?_
                  refine w_pushI rfl ?_
                  refine w_isubv (z := 2) rfl (by decide) ?_
                  refine w_iload rfl rfl ?_
                  refine w_iastv (j := 2) rfl rfl (by decide) (by unfold vp_in; decide) rfl ?_
                  refine w_vret rfl rfl ?_
                  show gW _ _ _ _ _ _ _ _ _ _
                  refine w_iload rfl rfl ?_
                  refine w_iret rfl (Or.inl rfl) ?_
                  show gW _ _ _ _ _ _ _ _ _ _
                  refine w_goto rfl ?_
                  refine w_iret rfl (Or.inl rfl) ?_
                  exact congrArg (fun v => some (Value.int v)) (show (20 : Int32) = f1_mend (0) (7) c by have e0 : (0 : Int32).toInt = 0 := rfl; have e1 : (7 : Int32).toInt = 7 := rfl; exact ite_eq_of (fun _ => ite_eq_of (fun hc => absurd hc (by omega)) (fun _ => ite_eq_of (fun hc => absurd hc (by omega)) (fun _ => ite_eq_of (fun _ => ite_eq_of (fun _ => rfl) (fun hc => absurd (by omega) hc)) (fun hc => absurd (by omega) hc)))) (fun hc => absurd (by omega) hc))
                · obtain rfl : c = 20 := i_is (show c.toInt = 20 by omega) (by decide)
                  refine w_iload rfl rfl ?_
                  refine w_iret rfl (Or.inl rfl) ?_
                  show gW _ _ _ _ _ _ _ _ _ _
                  refine w_goto rfl ?_
                  refine w_iret rfl (Or.inl rfl) ?_
                  exact congrArg (fun v => some (Value.int v)) (show (20 : Int32) = f1_mend (0) (7) (20) by have e0 : (0 : Int32).toInt = 0 := rfl; have e1 : (7 : Int32).toInt = 7 := rfl; have e2 : (20 : Int32).toInt = 20 := rfl; exact ite_eq_of (fun _ => ite_eq_of (fun hc => absurd hc (by omega)) (fun _ => ite_eq_of (fun hc => absurd hc (by omega)) (fun _ => ite_eq_of (fun _ => ite_eq_of (fun _ => rfl) (fun hc => absurd (by omega) hc)) (fun hc => absurd (by omega) hc)))) (fun hc => absurd (by omega) hc))
          · obtain rfl : b = 8 := i_is hs7 (by decide)
            refine w_swI (x := 8) (tg := 93) rfl (show ∃ q ∈ [((3 : Int32), 60), ((4 : Int32), 68), ((5 : Int32), 144), ((6 : Int32), 76), ((7 : Int32), 85), ((8 : Int32), 93), ((9 : Int32), 102), ((10 : Int32), 111), ((11 : Int32), 119), ((12 : Int32), 128), ((13 : Int32), 136)], (8 : Int32) = q.1 by decide) (show ∀ q ∈ [((3 : Int32), 60), ((4 : Int32), 68), ((5 : Int32), 144), ((6 : Int32), 76), ((7 : Int32), 85), ((8 : Int32), 93), ((9 : Int32), 102), ((10 : Int32), 111), ((11 : Int32), 119), ((12 : Int32), 128), ((13 : Int32), 136)], (8 : Int32) = q.1 → q.2 = 93 by decide) ?_
            refine w_iload rfl rfl ?_
            refine w_pushI rfl ?_
            refine w_pushI rfl ?_
            refine w_callSi (As := [_, _, _]) (le := [some _, some _, some _]) rfl rfl (Nat.le_of_ble_eq_true rfl) (Nat.le_of_ble_eq_true rfl) rfl ?_
            refine w_iload rfl rfl ?_
            refine w_iload rfl rfl ?_
            refine w_icmp_ltZ (b := 0) rfl rfl (by decide) (fun h8 => ?_) (fun h8 => ?_)
            · refine w_pushI rfl ?_
              refine w_iret rfl (Or.inr ⟨rfl, by decide⟩) ?_
              show gW _ _ _ _ _ _ _ _ _ _
              refine w_iret rfl (Or.inr ⟨rfl, by decide⟩) ?_
              show gW _ _ _ _ _ _ _ _ _ _
              refine w_if_eq rfl (fun _ => ?_) (fun h => absurd (by decide) h)
              refine w_pushI rfl ?_
              refine w_iret rfl (Or.inl rfl) ?_
              exact congrArg (fun v => some (Value.int v)) (show ((-1) : Int32) = f1_mend (0) (8) c by have e0 : (0 : Int32).toInt = 0 := rfl; have e1 : (8 : Int32).toInt = 8 := rfl; exact ite_eq_of (fun _ => ite_eq_of (fun hc => absurd hc (by omega)) (fun _ => ite_eq_of (fun hc => absurd hc (by omega)) (fun _ => ite_eq_of (fun hc => absurd hc (by omega)) (fun _ => ite_eq_of (fun _ => ite_eq_of (fun hc => absurd hc (by omega)) (fun _ => rfl)) (fun hc => absurd (by omega) hc))))) (fun hc => absurd (by omega) hc))
            · refine w_iload rfl rfl ?_
              refine w_iload rfl rfl ?_
              refine w_icmp_gtZ (b := 9999) rfl rfl (by decide) (fun h9 => ?_) (fun h9 => ?_)
              · refine w_pushI rfl ?_
                refine w_iret rfl (Or.inr ⟨rfl, by decide⟩) ?_
                show gW _ _ _ _ _ _ _ _ _ _
                refine w_iret rfl (Or.inr ⟨rfl, by decide⟩) ?_
                show gW _ _ _ _ _ _ _ _ _ _
                refine w_if_eq rfl (fun _ => ?_) (fun h => absurd (by decide) h)
                refine w_pushI rfl ?_
                refine w_iret rfl (Or.inl rfl) ?_
                exact congrArg (fun v => some (Value.int v)) (show ((-1) : Int32) = f1_mend (0) (8) c by have e0 : (0 : Int32).toInt = 0 := rfl; have e1 : (8 : Int32).toInt = 8 := rfl; exact ite_eq_of (fun _ => ite_eq_of (fun hc => absurd hc (by omega)) (fun _ => ite_eq_of (fun hc => absurd hc (by omega)) (fun _ => ite_eq_of (fun hc => absurd hc (by omega)) (fun _ => ite_eq_of (fun _ => ite_eq_of (fun hc => absurd hc (by omega)) (fun _ => rfl)) (fun hc => absurd (by omega) hc))))) (fun hc => absurd (by omega) hc))
              · refine w_pushI rfl ?_
                refine w_goto rfl ?_
                refine w_iret rfl (Or.inr ⟨rfl, by decide⟩) ?_
                show gW _ _ _ _ _ _ _ _ _ _
                refine w_iret rfl (Or.inr ⟨rfl, by decide⟩) ?_
                show gW _ _ _ _ _ _ _ _ _ _
                refine w_if_eq rfl (fun h => absurd h (by decide)) (fun _ => ?_)
                refine w_aload rfl rfl ?_
                refine w_iload rfl rfl ?_
                refine w_topv (z := 8) (by decide) ?_
                refine w_iload rfl rfl ?_
                refine w_topv (z := 0) (by decide) ?_
                refine w_iload rfl rfl ?_
                refine w_callVi (As := [_, _, _]) (le := [some _, some _, some _, some _, none, none]) rfl rfl rfl (Nat.le_of_ble_eq_true rfl) (Nat.le_of_ble_eq_true rfl) rfl ?_
                refine w_aload rfl rfl ?_
                refine w_iload rfl rfl ?_
                refine w_iload rfl rfl ?_
                refine w_callVi (As := [_, _]) (le := [some _, some _, some _]) rfl rfl rfl (Nat.le_of_ble_eq_true rfl) (Nat.le_of_ble_eq_true rfl) rfl ?_
                refine w_iload rfl rfl ?_
                refine w_swO (x := 8) rfl (show ∀ q ∈ [((0 : Int32), 36), ((1 : Int32), 43), ((2 : Int32), 50), ((3 : Int32), 57), ((4 : Int32), 64)], ¬ (8 : Int32) = q.1 by decide) ?_
                refine w_aload rfl rfl ?_
                refine w_getR (r := 56) rfl rfl (hR _ fmR_50_7 (by decide)) ?_
                refine w_iload rfl rfl ?_
                refine w_pushI rfl ?_
                refine w_isubv (z := 3) rfl (by decide) ?_
                refine w_ialdv (j := 3) (x := 60) rfl rfl (by decide) (by unfold vp_in; decide) (hI _ fmI_56_3 (by decide)) ?_
                refine w_iret rfl (Or.inl rfl) ?_
                show gW _ _ _ _ _ _ _ _ _ _
                refine w_istore rfl rfl ?_
                refine w_iload rfl rfl ?_
                refine w_iload rfl rfl ?_
                refine w_icmp_neZ (a := 60) rfl (by decide) rfl (fun h10 => ?_) (fun h10 => ?_)
                · refine w_aload rfl rfl ?_
                  refine w_pushI rfl ?_
                  refine w_putI rfl rfl ?_
                  refine w_aload rfl rfl ?_
                  refine w_getIv (x := 0) rfl rfl ((gU_n (by decide)).trans (hI _ fmI_50_8 (by decide))) ?_
                  refine w_pushI rfl ?_
                  refine w_icmp_ne rfl (fun _ => ?_) (fun h => absurd h (by decide))
                  refine w_aload rfl rfl ?_
                  refine w_getR (r := 57) rfl rfl (hR _ fmR_50_10 (by decide)) ?_
                  refine w_aload rfl rfl ?_
                  refine w_getIv (x := 0) rfl rfl ((gU_n (by decide)).trans (hI _ fmI_50_8 (by decide))) ?_
                  refine w_iload rfl rfl ?_
                  refine w_iastv (j := 0) rfl rfl (by decide) (by unfold vp_in; decide) rfl ?_
                  refine w_aload rfl rfl ?_
                  refine w_getR (r := 58) rfl rfl (hR _ fmR_50_11 (by decide)) ?_
                  refine w_aload rfl rfl ?_
                  refine w_getIv (x := 0) rfl rfl ((gU_n (by decide)).trans ((gU_n (by decide)).trans (hI _ fmI_50_8 (by decide)))) ?_
                  refine w_iload rfl rfl ?_
                  refine w_iastv (j := 0) rfl rfl (by decide) (by unfold vp_in; decide) rfl ?_
                  refine w_aload rfl rfl ?_
                  refine w_getR (r := 59) rfl rfl (hR _ fmR_50_12 (by decide)) ?_
                  refine w_aload rfl rfl ?_
                  refine w_getIv (x := 0) rfl rfl ((gU_n (by decide)).trans ((gU_n (by decide)).trans ((gU_n (by decide)).trans (hI _ fmI_50_8 (by decide))))) ?_
                  refine w_iload rfl rfl ?_
                  refine w_iastv (j := 0) rfl rfl (by decide) (by unfold vp_in; decide) rfl ?_
                  refine w_aload rfl rfl ?_
                  refine w_getR (r := 60) rfl rfl (hR _ fmR_50_13 (by decide)) ?_
                  refine w_aload rfl rfl ?_
                  refine w_getIv (x := 0) rfl rfl ((gU_n (by decide)).trans ((gU_n (by decide)).trans ((gU_n (by decide)).trans ((gU_n (by decide)).trans (hI _ fmI_50_8 (by decide)))))) ?_
                  refine w_iload rfl rfl ?_
                  refine w_iastv (j := 0) rfl rfl (by decide) (by unfold vp_in; decide) rfl ?_
                  refine w_aload rfl rfl ?_
                  refine w_dup rfl rfl ?_
                  refine w_getIv (x := 0) rfl rfl ((gU_n (by decide)).trans ((gU_n (by decide)).trans ((gU_n (by decide)).trans ((gU_n (by decide)).trans ((gU_n (by decide)).trans (hI _ fmI_50_8 (by decide))))))) ?_
                  refine w_pushI rfl ?_
                  refine w_iaddv (z := 1) rfl (by decide) ?_
                  refine w_putI rfl rfl ?_
                  refine w_aload rfl rfl ?_
                  refine w_iload rfl rfl ?_
                  refine w_iload rfl rfl ?_
                  refine w_iload rfl rfl ?_
                  refine w_callVi (As := [_, _, _]) (le := [some _, some _, some _, some _]) rfl rfl rfl (Nat.le_of_ble_eq_true rfl) (Nat.le_of_ble_eq_true rfl) rfl ?_
                  refine w_iload rfl rfl ?_
                  refine w_swO (x := 8) rfl (show ∀ q ∈ [((0 : Int32), 36), ((1 : Int32), 46), ((2 : Int32), 56), ((3 : Int32), 66), ((4 : Int32), 76)], ¬ (8 : Int32) = q.1 by decide) ?_
                  refine w_aload rfl rfl ?_
                  refine w_getR (r := 56) rfl rfl (hR _ fmR_50_7 (by decide)) ?_
                  refine w_iload rfl rfl ?_
                  refine w_pushI rfl ?_
                  refine w_isubv (z := 3) rfl (by decide) ?_
                  refine w_iload rfl rfl ?_
                  refine w_iastv (j := 3) rfl rfl (by decide) (by unfold vp_in; decide) rfl ?_
                  refine w_vret rfl rfl ?_
                  show gW _ _ _ _ _ _ _ _ _ _
                  refine w_iload rfl rfl ?_
                  refine w_iret rfl (Or.inl rfl) ?_
                  show gW _ _ _ _ _ _ _ _ _ _
                  refine w_goto rfl ?_
                  refine w_iret rfl (Or.inl rfl) ?_
                  exact congrArg (fun v => some (Value.int v)) (show (60 : Int32) = f1_mend (0) (8) c by have e0 : (0 : Int32).toInt = 0 := rfl; have e1 : (8 : Int32).toInt = 8 := rfl; exact ite_eq_of (fun _ => ite_eq_of (fun hc => absurd hc (by omega)) (fun _ => ite_eq_of (fun hc => absurd hc (by omega)) (fun _ => ite_eq_of (fun hc => absurd hc (by omega)) (fun _ => ite_eq_of (fun _ => ite_eq_of (fun _ => rfl) (fun hc => absurd (by omega) hc)) (fun hc => absurd (by omega) hc))))) (fun hc => absurd (by omega) hc))
                · obtain rfl : c = 60 := i_is (show c.toInt = 60 by omega) (by decide)
                  refine w_iload rfl rfl ?_
                  refine w_iret rfl (Or.inl rfl) ?_
                  show gW _ _ _ _ _ _ _ _ _ _
                  refine w_goto rfl ?_
                  refine w_iret rfl (Or.inl rfl) ?_
                  exact congrArg (fun v => some (Value.int v)) (show (60 : Int32) = f1_mend (0) (8) (60) by have e0 : (0 : Int32).toInt = 0 := rfl; have e1 : (8 : Int32).toInt = 8 := rfl; have e2 : (60 : Int32).toInt = 60 := rfl; exact ite_eq_of (fun _ => ite_eq_of (fun hc => absurd hc (by omega)) (fun _ => ite_eq_of (fun hc => absurd hc (by omega)) (fun _ => ite_eq_of (fun hc => absurd hc (by omega)) (fun _ => ite_eq_of (fun _ => ite_eq_of (fun _ => rfl) (fun hc => absurd (by omega) hc)) (fun hc => absurd (by omega) hc))))) (fun hc => absurd (by omega) hc))
          · obtain rfl : b = 9 := i_is hs7 (by decide)
            refine w_swI (x := 9) (tg := 102) rfl (show ∃ q ∈ [((3 : Int32), 60), ((4 : Int32), 68), ((5 : Int32), 144), ((6 : Int32), 76), ((7 : Int32), 85), ((8 : Int32), 93), ((9 : Int32), 102), ((10 : Int32), 111), ((11 : Int32), 119), ((12 : Int32), 128), ((13 : Int32), 136)], (9 : Int32) = q.1 by decide) (show ∀ q ∈ [((3 : Int32), 60), ((4 : Int32), 68), ((5 : Int32), 144), ((6 : Int32), 76), ((7 : Int32), 85), ((8 : Int32), 93), ((9 : Int32), 102), ((10 : Int32), 111), ((11 : Int32), 119), ((12 : Int32), 128), ((13 : Int32), 136)], (9 : Int32) = q.1 → q.2 = 102 by decide) ?_
            refine w_iload rfl rfl ?_
            refine w_pushI rfl ?_
            refine w_pushI rfl ?_
            refine w_callSi (As := [_, _, _]) (le := [some _, some _, some _]) rfl rfl (Nat.le_of_ble_eq_true rfl) (Nat.le_of_ble_eq_true rfl) rfl ?_
            refine w_iload rfl rfl ?_
            refine w_iload rfl rfl ?_
            refine w_icmp_ltZ (b := 0) rfl rfl (by decide) (fun h8 => ?_) (fun h8 => ?_)
            · refine w_pushI rfl ?_
              refine w_iret rfl (Or.inr ⟨rfl, by decide⟩) ?_
              show gW _ _ _ _ _ _ _ _ _ _
              refine w_iret rfl (Or.inr ⟨rfl, by decide⟩) ?_
              show gW _ _ _ _ _ _ _ _ _ _
              refine w_if_eq rfl (fun _ => ?_) (fun h => absurd (by decide) h)
              refine w_pushI rfl ?_
              refine w_iret rfl (Or.inl rfl) ?_
              exact congrArg (fun v => some (Value.int v)) (show ((-1) : Int32) = f1_mend (0) (9) c by have e0 : (0 : Int32).toInt = 0 := rfl; have e1 : (9 : Int32).toInt = 9 := rfl; exact ite_eq_of (fun _ => ite_eq_of (fun hc => absurd hc (by omega)) (fun _ => ite_eq_of (fun hc => absurd hc (by omega)) (fun _ => ite_eq_of (fun hc => absurd hc (by omega)) (fun _ => ite_eq_of (fun hc => absurd hc (by omega)) (fun _ => ite_eq_of (fun _ => ite_eq_of (fun hc => absurd hc (by omega)) (fun _ => rfl)) (fun hc => absurd (by omega) hc)))))) (fun hc => absurd (by omega) hc))
            · refine w_iload rfl rfl ?_
              refine w_iload rfl rfl ?_
              refine w_icmp_gtZ (b := 9999) rfl rfl (by decide) (fun h9 => ?_) (fun h9 => ?_)
              · refine w_pushI rfl ?_
                refine w_iret rfl (Or.inr ⟨rfl, by decide⟩) ?_
                show gW _ _ _ _ _ _ _ _ _ _
                refine w_iret rfl (Or.inr ⟨rfl, by decide⟩) ?_
                show gW _ _ _ _ _ _ _ _ _ _
                refine w_if_eq rfl (fun _ => ?_) (fun h => absurd (by decide) h)
                refine w_pushI rfl ?_
                refine w_iret rfl (Or.inl rfl) ?_
                exact congrArg (fun v => some (Value.int v)) (show ((-1) : Int32) = f1_mend (0) (9) c by have e0 : (0 : Int32).toInt = 0 := rfl; have e1 : (9 : Int32).toInt = 9 := rfl; exact ite_eq_of (fun _ => ite_eq_of (fun hc => absurd hc (by omega)) (fun _ => ite_eq_of (fun hc => absurd hc (by omega)) (fun _ => ite_eq_of (fun hc => absurd hc (by omega)) (fun _ => ite_eq_of (fun hc => absurd hc (by omega)) (fun _ => ite_eq_of (fun _ => ite_eq_of (fun hc => absurd hc (by omega)) (fun _ => rfl)) (fun hc => absurd (by omega) hc)))))) (fun hc => absurd (by omega) hc))
              · refine w_pushI rfl ?_
                refine w_goto rfl ?_
                refine w_iret rfl (Or.inr ⟨rfl, by decide⟩) ?_
                show gW _ _ _ _ _ _ _ _ _ _
                refine w_iret rfl (Or.inr ⟨rfl, by decide⟩) ?_
                show gW _ _ _ _ _ _ _ _ _ _
                refine w_if_eq rfl (fun h => absurd h (by decide)) (fun _ => ?_)
                refine w_aload rfl rfl ?_
                refine w_iload rfl rfl ?_
                refine w_topv (z := 9) (by decide) ?_
                refine w_iload rfl rfl ?_
                refine w_topv (z := 0) (by decide) ?_
                refine w_iload rfl rfl ?_
                refine w_callVi (As := [_, _, _]) (le := [some _, some _, some _, some _, none, none]) rfl rfl rfl (Nat.le_of_ble_eq_true rfl) (Nat.le_of_ble_eq_true rfl) rfl ?_
                refine w_aload rfl rfl ?_
                refine w_iload rfl rfl ?_
                refine w_iload rfl rfl ?_
                refine w_callVi (As := [_, _]) (le := [some _, some _, some _]) rfl rfl rfl (Nat.le_of_ble_eq_true rfl) (Nat.le_of_ble_eq_true rfl) rfl ?_
                refine w_iload rfl rfl ?_
                refine w_swO (x := 9) rfl (show ∀ q ∈ [((0 : Int32), 36), ((1 : Int32), 43), ((2 : Int32), 50), ((3 : Int32), 57), ((4 : Int32), 64)], ¬ (9 : Int32) = q.1 by decide) ?_
                refine w_aload rfl rfl ?_
                refine w_getR (r := 56) rfl rfl (hR _ fmR_50_7 (by decide)) ?_
                refine w_iload rfl rfl ?_
                refine w_pushI rfl ?_
                refine w_isubv (z := 4) rfl (by decide) ?_
                refine w_ialdv (j := 4) (x := 90) rfl rfl (by decide) (by unfold vp_in; decide) (hI _ fmI_56_4 (by decide)) ?_
                refine w_iret rfl (Or.inl rfl) ?_
                show gW _ _ _ _ _ _ _ _ _ _
                refine w_istore rfl rfl ?_
                refine w_iload rfl rfl ?_
                refine w_iload rfl rfl ?_
                refine w_icmp_neZ (a := 90) rfl (by decide) rfl (fun h10 => ?_) (fun h10 => ?_)
                · refine w_aload rfl rfl ?_
                  refine w_pushI rfl ?_
                  refine w_putI rfl rfl ?_
                  refine w_aload rfl rfl ?_
                  refine w_getIv (x := 0) rfl rfl ((gU_n (by decide)).trans (hI _ fmI_50_8 (by decide))) ?_
                  refine w_pushI rfl ?_
                  refine w_icmp_ne rfl (fun _ => ?_) (fun h => absurd h (by decide))
                  refine w_aload rfl rfl ?_
                  refine w_getR (r := 57) rfl rfl (hR _ fmR_50_10 (by decide)) ?_
                  refine w_aload rfl rfl ?_
                  refine w_getIv (x := 0) rfl rfl ((gU_n (by decide)).trans (hI _ fmI_50_8 (by decide))) ?_
                  refine w_iload rfl rfl ?_
                  refine w_iastv (j := 0) rfl rfl (by decide) (by unfold vp_in; decide) rfl ?_
                  refine w_aload rfl rfl ?_
                  refine w_getR (r := 58) rfl rfl (hR _ fmR_50_11 (by decide)) ?_
                  refine w_aload rfl rfl ?_
                  refine w_getIv (x := 0) rfl rfl ((gU_n (by decide)).trans ((gU_n (by decide)).trans (hI _ fmI_50_8 (by decide)))) ?_
                  refine w_iload rfl rfl ?_
                  refine w_iastv (j := 0) rfl rfl (by decide) (by unfold vp_in; decide) rfl ?_
                  refine w_aload rfl rfl ?_
                  refine w_getR (r := 59) rfl rfl (hR _ fmR_50_12 (by decide)) ?_
                  refine w_aload rfl rfl ?_
                  refine w_getIv (x := 0) rfl rfl ((gU_n (by decide)).trans ((gU_n (by decide)).trans ((gU_n (by decide)).trans (hI _ fmI_50_8 (by decide))))) ?_
                  refine w_iload rfl rfl ?_
                  refine w_iastv (j := 0) rfl rfl (by decide) (by unfold vp_in; decide) rfl ?_
                  refine w_aload rfl rfl ?_
                  refine w_getR (r := 60) rfl rfl (hR _ fmR_50_13 (by decide)) ?_
                  refine w_aload rfl rfl ?_
                  refine w_getIv (x := 0) rfl rfl ((gU_n (by decide)).trans ((gU_n (by decide)).trans ((gU_n (by decide)).trans ((gU_n (by decide)).trans (hI _ fmI_50_8 (by decide)))))) ?_
                  refine w_iload rfl rfl ?_
                  refine w_iastv (j := 0) rfl rfl (by decide) (by unfold vp_in; decide) rfl ?_
                  refine w_aload rfl rfl ?_
                  refine w_dup rfl rfl ?_
                  refine w_getIv (x := 0) rfl rfl ((gU_n (by decide)).trans ((gU_n (by decide)).trans ((gU_n (by decide)).trans ((gU_n (by decide)).trans ((gU_n (by decide)).trans (hI _ fmI_50_8 (by decide))))))) ?_
                  refine w_pushI rfl ?_
                  refine w_iaddv (z := 1) rfl (by decide) ?_
                  refine w_putI rfl rfl ?_
                  refine w_aload rfl rfl ?_
                  refine w_iload rfl rfl ?_
                  refine w_iload rfl rfl ?_
                  refine w_iload rfl rfl ?_
                  refine w_callVi (As := [_, _, _]) (le := [some _, some _, some _, some _]) rfl rfl rfl (Nat.le_of_ble_eq_true rfl) (Nat.le_of_ble_eq_true rfl) rfl ?_
                  refine w_iload rfl rfl ?_
                  refine w_swO (x := 9) rfl (show ∀ q ∈ [((0 : Int32), 36), ((1 : Int32), 46), ((2 : Int32), 56), ((3 : Int32), 66), ((4 : Int32), 76)], ¬ (9 : Int32) = q.1 by decide) ?_
                  refine w_aload rfl rfl ?_
                  refine w_getR (r := 56) rfl rfl (hR _ fmR_50_7 (by decide)) ?_
                  refine w_iload rfl rfl ?_
                  refine w_pushI rfl ?_
                  refine w_isubv (z := 4) rfl (by decide) ?_
                  refine w_iload rfl rfl ?_
                  refine w_iastv (j := 4) rfl rfl (by decide) (by unfold vp_in; decide) rfl ?_
                  refine w_vret rfl rfl ?_
                  show gW _ _ _ _ _ _ _ _ _ _
                  refine w_iload rfl rfl ?_
                  refine w_iret rfl (Or.inl rfl) ?_
                  show gW _ _ _ _ _ _ _ _ _ _
                  refine w_goto rfl ?_
                  refine w_iret rfl (Or.inl rfl) ?_
                  exact congrArg (fun v => some (Value.int v)) (show (90 : Int32) = f1_mend (0) (9) c by have e0 : (0 : Int32).toInt = 0 := rfl; have e1 : (9 : Int32).toInt = 9 := rfl; exact ite_eq_of (fun _ => ite_eq_of (fun hc => absurd hc (by omega)) (fun _ => ite_eq_of (fun hc => absurd hc (by omega)) (fun _ => ite_eq_of (fun hc => absurd hc (by omega)) (fun _ => ite_eq_of (fun hc => absurd hc (by omega)) (fun _ => ite_eq_of (fun _ => ite_eq_of (fun _ => rfl) (fun hc => absurd (by omega) hc)) (fun hc => absurd (by omega) hc)))))) (fun hc => absurd (by omega) hc))
                · obtain rfl : c = 90 := i_is (show c.toInt = 90 by omega) (by decide)
                  refine w_iload rfl rfl ?_
                  refine w_iret rfl (Or.inl rfl) ?_
                  show gW _ _ _ _ _ _ _ _ _ _
                  refine w_goto rfl ?_
                  refine w_iret rfl (Or.inl rfl) ?_
                  exact congrArg (fun v => some (Value.int v)) (show (90 : Int32) = f1_mend (0) (9) (90) by have e0 : (0 : Int32).toInt = 0 := rfl; have e1 : (9 : Int32).toInt = 9 := rfl; have e2 : (90 : Int32).toInt = 90 := rfl; exact ite_eq_of (fun _ => ite_eq_of (fun hc => absurd hc (by omega)) (fun _ => ite_eq_of (fun hc => absurd hc (by omega)) (fun _ => ite_eq_of (fun hc => absurd hc (by omega)) (fun _ => ite_eq_of (fun hc => absurd hc (by omega)) (fun _ => ite_eq_of (fun _ => ite_eq_of (fun _ => rfl) (fun hc => absurd (by omega) hc)) (fun hc => absurd (by omega) hc)))))) (fun hc => absurd (by omega) hc))
          · obtain rfl : b = 10 := i_is hs7 (by decide)
            refine w_swI (x := 10) (tg := 111) rfl (show ∃ q ∈ [((3 : Int32), 60), ((4 : Int32), 68), ((5 : Int32), 144), ((6 : Int32), 76), ((7 : Int32), 85), ((8 : Int32), 93), ((9 : Int32), 102), ((10 : Int32), 111), ((11 : Int32), 119), ((12 : Int32), 128), ((13 : Int32), 136)], (10 : Int32) = q.1 by decide) (show ∀ q ∈ [((3 : Int32), 60), ((4 : Int32), 68), ((5 : Int32), 144), ((6 : Int32), 76), ((7 : Int32), 85), ((8 : Int32), 93), ((9 : Int32), 102), ((10 : Int32), 111), ((11 : Int32), 119), ((12 : Int32), 128), ((13 : Int32), 136)], (10 : Int32) = q.1 → q.2 = 111 by decide) ?_
            refine w_iload rfl rfl ?_
            refine w_pushI rfl ?_
            refine w_pushI rfl ?_
            refine w_callSi (As := [_, _, _]) (le := [some _, some _, some _]) rfl rfl (Nat.le_of_ble_eq_true rfl) (Nat.le_of_ble_eq_true rfl) rfl ?_
            refine w_iload rfl rfl ?_
            refine w_iload rfl rfl ?_
            refine w_icmp_ltZ (b := 0) rfl rfl (by decide) (fun h8 => ?_) (fun h8 => ?_)
            · refine w_pushI rfl ?_
              refine w_iret rfl (Or.inr ⟨rfl, by decide⟩) ?_
              show gW _ _ _ _ _ _ _ _ _ _
              refine w_iret rfl (Or.inr ⟨rfl, by decide⟩) ?_
              show gW _ _ _ _ _ _ _ _ _ _
              refine w_if_eq rfl (fun _ => ?_) (fun h => absurd (by decide) h)
              refine w_pushI rfl ?_
              refine w_iret rfl (Or.inl rfl) ?_
              exact congrArg (fun v => some (Value.int v)) (show ((-1) : Int32) = f1_mend (0) (10) c by have e0 : (0 : Int32).toInt = 0 := rfl; have e1 : (10 : Int32).toInt = 10 := rfl; exact ite_eq_of (fun _ => ite_eq_of (fun hc => absurd hc (by omega)) (fun _ => ite_eq_of (fun hc => absurd hc (by omega)) (fun _ => ite_eq_of (fun hc => absurd hc (by omega)) (fun _ => ite_eq_of (fun hc => absurd hc (by omega)) (fun _ => ite_eq_of (fun hc => absurd hc (by omega)) (fun _ => ite_eq_of (fun _ => ite_eq_of (fun hc => absurd hc (by omega)) (fun _ => rfl)) (fun hc => absurd (by omega) hc))))))) (fun hc => absurd (by omega) hc))
            · refine w_iload rfl rfl ?_
              refine w_iload rfl rfl ?_
              refine w_icmp_gtZ (b := 12) rfl rfl (by decide) (fun h9 => ?_) (fun h9 => ?_)
              · refine w_pushI rfl ?_
                refine w_iret rfl (Or.inr ⟨rfl, by decide⟩) ?_
                show gW _ _ _ _ _ _ _ _ _ _
                refine w_iret rfl (Or.inr ⟨rfl, by decide⟩) ?_
                show gW _ _ _ _ _ _ _ _ _ _
                refine w_if_eq rfl (fun _ => ?_) (fun h => absurd (by decide) h)
                refine w_pushI rfl ?_
                refine w_iret rfl (Or.inl rfl) ?_
                exact congrArg (fun v => some (Value.int v)) (show ((-1) : Int32) = f1_mend (0) (10) c by have e0 : (0 : Int32).toInt = 0 := rfl; have e1 : (10 : Int32).toInt = 10 := rfl; exact ite_eq_of (fun _ => ite_eq_of (fun hc => absurd hc (by omega)) (fun _ => ite_eq_of (fun hc => absurd hc (by omega)) (fun _ => ite_eq_of (fun hc => absurd hc (by omega)) (fun _ => ite_eq_of (fun hc => absurd hc (by omega)) (fun _ => ite_eq_of (fun hc => absurd hc (by omega)) (fun _ => ite_eq_of (fun _ => ite_eq_of (fun hc => absurd hc (by omega)) (fun _ => rfl)) (fun hc => absurd (by omega) hc))))))) (fun hc => absurd (by omega) hc))
              · refine w_pushI rfl ?_
                refine w_goto rfl ?_
                refine w_iret rfl (Or.inr ⟨rfl, by decide⟩) ?_
                show gW _ _ _ _ _ _ _ _ _ _
                refine w_iret rfl (Or.inr ⟨rfl, by decide⟩) ?_
                show gW _ _ _ _ _ _ _ _ _ _
                refine w_if_eq rfl (fun h => absurd h (by decide)) (fun _ => ?_)
                refine w_aload rfl rfl ?_
                refine w_iload rfl rfl ?_
                refine w_topv (z := 10) (by decide) ?_
                refine w_iload rfl rfl ?_
                refine w_topv (z := 0) (by decide) ?_
                refine w_iload rfl rfl ?_
                refine w_callVi (As := [_, _, _]) (le := [some _, some _, some _, some _, none, none]) rfl rfl rfl (Nat.le_of_ble_eq_true rfl) (Nat.le_of_ble_eq_true rfl) rfl ?_
                refine w_aload rfl rfl ?_
                refine w_iload rfl rfl ?_
                refine w_iload rfl rfl ?_
                refine w_callVi (As := [_, _]) (le := [some _, some _, some _]) rfl rfl rfl (Nat.le_of_ble_eq_true rfl) (Nat.le_of_ble_eq_true rfl) rfl ?_
                refine w_iload rfl rfl ?_
                refine w_swO (x := 10) rfl (show ∀ q ∈ [((0 : Int32), 36), ((1 : Int32), 43), ((2 : Int32), 50), ((3 : Int32), 57), ((4 : Int32), 64)], ¬ (10 : Int32) = q.1 by decide) ?_
                refine w_aload rfl rfl ?_
                refine w_getR (r := 56) rfl rfl (hR _ fmR_50_7 (by decide)) ?_
                refine w_iload rfl rfl ?_
                refine w_pushI rfl ?_
                refine w_isubv (z := 5) rfl (by decide) ?_
                refine w_ialdv (j := 5) (x := 3) rfl rfl (by decide) (by unfold vp_in; decide) (hI _ fmI_56_5 (by decide)) ?_
                refine w_iret rfl (Or.inl rfl) ?_
                show gW _ _ _ _ _ _ _ _ _ _
                refine w_istore rfl rfl ?_
                refine w_iload rfl rfl ?_
                refine w_iload rfl rfl ?_
                refine w_icmp_neZ (a := 3) rfl (by decide) rfl (fun h10 => ?_) (fun h10 => ?_)
                · refine w_aload rfl rfl ?_
                  refine w_pushI rfl ?_
                  refine w_putI rfl rfl ?_
                  refine w_aload rfl rfl ?_
                  refine w_getIv (x := 0) rfl rfl ((gU_n (by decide)).trans (hI _ fmI_50_8 (by decide))) ?_
                  refine w_pushI rfl ?_
                  refine w_icmp_ne rfl (fun _ => ?_) (fun h => absurd h (by decide))
                  refine w_aload rfl rfl ?_
                  refine w_getR (r := 57) rfl rfl (hR _ fmR_50_10 (by decide)) ?_
                  refine w_aload rfl rfl ?_
                  refine w_getIv (x := 0) rfl rfl ((gU_n (by decide)).trans (hI _ fmI_50_8 (by decide))) ?_
                  refine w_iload rfl rfl ?_
                  refine w_iastv (j := 0) rfl rfl (by decide) (by unfold vp_in; decide) rfl ?_
                  refine w_aload rfl rfl ?_
                  refine w_getR (r := 58) rfl rfl (hR _ fmR_50_11 (by decide)) ?_
                  refine w_aload rfl rfl ?_
                  refine w_getIv (x := 0) rfl rfl ((gU_n (by decide)).trans ((gU_n (by decide)).trans (hI _ fmI_50_8 (by decide)))) ?_
                  refine w_iload rfl rfl ?_
                  refine w_iastv (j := 0) rfl rfl (by decide) (by unfold vp_in; decide) rfl ?_
                  refine w_aload rfl rfl ?_
                  refine w_getR (r := 59) rfl rfl (hR _ fmR_50_12 (by decide)) ?_
                  refine w_aload rfl rfl ?_
                  refine w_getIv (x := 0) rfl rfl ((gU_n (by decide)).trans ((gU_n (by decide)).trans ((gU_n (by decide)).trans (hI _ fmI_50_8 (by decide))))) ?_
                  refine w_iload rfl rfl ?_
                  refine w_iastv (j := 0) rfl rfl (by decide) (by unfold vp_in; decide) rfl ?_
                  refine w_aload rfl rfl ?_
                  refine w_getR (r := 60) rfl rfl (hR _ fmR_50_13 (by decide)) ?_
                  refine w_aload rfl rfl ?_
                  refine w_getIv (x := 0) rfl rfl ((gU_n (by decide)).trans ((gU_n (by decide)).trans ((gU_n (by decide)).trans ((gU_n (by decide)).trans (hI _ fmI_50_8 (by decide)))))) ?_
                  refine w_iload rfl rfl ?_
                  refine w_iastv (j := 0) rfl rfl (by decide) (by unfold vp_in; decide) rfl ?_
                  refine w_aload rfl rfl ?_
                  refine w_dup rfl rfl ?_
                  refine w_getIv (x := 0) rfl rfl ((gU_n (by decide)).trans ((gU_n (by decide)).trans ((gU_n (by decide)).trans ((gU_n (by decide)).trans ((gU_n (by decide)).trans (hI _ fmI_50_8 (by decide))))))) ?_
                  refine w_pushI rfl ?_
                  refine w_iaddv (z := 1) rfl (by decide) ?_
                  refine w_putI rfl rfl ?_
                  refine w_aload rfl rfl ?_
                  refine w_iload rfl rfl ?_
                  refine w_iload rfl rfl ?_
                  refine w_iload rfl rfl ?_
                  refine w_callVi (As := [_, _, _]) (le := [some _, some _, some _, some _]) rfl rfl rfl (Nat.le_of_ble_eq_true rfl) (Nat.le_of_ble_eq_true rfl) rfl ?_
                  refine w_iload rfl rfl ?_
                  refine w_swO (x := 10) rfl (show ∀ q ∈ [((0 : Int32), 36), ((1 : Int32), 46), ((2 : Int32), 56), ((3 : Int32), 66), ((4 : Int32), 76)], ¬ (10 : Int32) = q.1 by decide) ?_
                  refine w_aload rfl rfl ?_
                  refine w_getR (r := 56) rfl rfl (hR _ fmR_50_7 (by decide)) ?_
                  refine w_iload rfl rfl ?_
                  refine w_pushI rfl ?_
                  refine w_isubv (z := 5) rfl (by decide) ?_
                  refine w_iload rfl rfl ?_
                  refine w_iastv (j := 5) rfl rfl (by decide) (by unfold vp_in; decide) rfl ?_
                  refine w_vret rfl rfl ?_
                  show gW _ _ _ _ _ _ _ _ _ _
                  refine w_iload rfl rfl ?_
                  refine w_iret rfl (Or.inl rfl) ?_
                  show gW _ _ _ _ _ _ _ _ _ _
                  refine w_goto rfl ?_
                  refine w_iret rfl (Or.inl rfl) ?_
                  exact congrArg (fun v => some (Value.int v)) (show (3 : Int32) = f1_mend (0) (10) c by have e0 : (0 : Int32).toInt = 0 := rfl; have e1 : (10 : Int32).toInt = 10 := rfl; exact ite_eq_of (fun _ => ite_eq_of (fun hc => absurd hc (by omega)) (fun _ => ite_eq_of (fun hc => absurd hc (by omega)) (fun _ => ite_eq_of (fun hc => absurd hc (by omega)) (fun _ => ite_eq_of (fun hc => absurd hc (by omega)) (fun _ => ite_eq_of (fun hc => absurd hc (by omega)) (fun _ => ite_eq_of (fun _ => ite_eq_of (fun _ => rfl) (fun hc => absurd (by omega) hc)) (fun hc => absurd (by omega) hc))))))) (fun hc => absurd (by omega) hc))
                · obtain rfl : c = 3 := i_is (show c.toInt = 3 by omega) (by decide)
                  refine w_iload rfl rfl ?_
                  refine w_iret rfl (Or.inl rfl) ?_
                  show gW _ _ _ _ _ _ _ _ _ _
                  refine w_goto rfl ?_
                  refine w_iret rfl (Or.inl rfl) ?_
                  exact congrArg (fun v => some (Value.int v)) (show (3 : Int32) = f1_mend (0) (10) (3) by have e0 : (0 : Int32).toInt = 0 := rfl; have e1 : (10 : Int32).toInt = 10 := rfl; have e2 : (3 : Int32).toInt = 3 := rfl; exact ite_eq_of (fun _ => ite_eq_of (fun hc => absurd hc (by omega)) (fun _ => ite_eq_of (fun hc => absurd hc (by omega)) (fun _ => ite_eq_of (fun hc => absurd hc (by omega)) (fun _ => ite_eq_of (fun hc => absurd hc (by omega)) (fun _ => ite_eq_of (fun hc => absurd hc (by omega)) (fun _ => ite_eq_of (fun _ => ite_eq_of (fun _ => rfl) (fun hc => absurd (by omega) hc)) (fun hc => absurd (by omega) hc))))))) (fun hc => absurd (by omega) hc))
          · obtain rfl : b = 11 := i_is hs7 (by decide)
            refine w_swI (x := 11) (tg := 119) rfl (show ∃ q ∈ [((3 : Int32), 60), ((4 : Int32), 68), ((5 : Int32), 144), ((6 : Int32), 76), ((7 : Int32), 85), ((8 : Int32), 93), ((9 : Int32), 102), ((10 : Int32), 111), ((11 : Int32), 119), ((12 : Int32), 128), ((13 : Int32), 136)], (11 : Int32) = q.1 by decide) (show ∀ q ∈ [((3 : Int32), 60), ((4 : Int32), 68), ((5 : Int32), 144), ((6 : Int32), 76), ((7 : Int32), 85), ((8 : Int32), 93), ((9 : Int32), 102), ((10 : Int32), 111), ((11 : Int32), 119), ((12 : Int32), 128), ((13 : Int32), 136)], (11 : Int32) = q.1 → q.2 = 119 by decide) ?_
            refine w_iload rfl rfl ?_
            refine w_pushI rfl ?_
            refine w_pushI rfl ?_
            refine w_callSi (As := [_, _, _]) (le := [some _, some _, some _]) rfl rfl (Nat.le_of_ble_eq_true rfl) (Nat.le_of_ble_eq_true rfl) rfl ?_
            refine w_iload rfl rfl ?_
            refine w_iload rfl rfl ?_
            refine w_icmp_ltZ (b := 0) rfl rfl (by decide) (fun h8 => ?_) (fun h8 => ?_)
            · refine w_pushI rfl ?_
              refine w_iret rfl (Or.inr ⟨rfl, by decide⟩) ?_
              show gW _ _ _ _ _ _ _ _ _ _
              refine w_iret rfl (Or.inr ⟨rfl, by decide⟩) ?_
              show gW _ _ _ _ _ _ _ _ _ _
              refine w_if_eq rfl (fun _ => ?_) (fun h => absurd (by decide) h)
              refine w_pushI rfl ?_
              refine w_iret rfl (Or.inl rfl) ?_
              exact congrArg (fun v => some (Value.int v)) (show ((-1) : Int32) = f1_mend (0) (11) c by have e0 : (0 : Int32).toInt = 0 := rfl; have e1 : (11 : Int32).toInt = 11 := rfl; exact ite_eq_of (fun _ => ite_eq_of (fun hc => absurd hc (by omega)) (fun _ => ite_eq_of (fun hc => absurd hc (by omega)) (fun _ => ite_eq_of (fun hc => absurd hc (by omega)) (fun _ => ite_eq_of (fun hc => absurd hc (by omega)) (fun _ => ite_eq_of (fun hc => absurd hc (by omega)) (fun _ => ite_eq_of (fun hc => absurd hc (by omega)) (fun _ => ite_eq_of (fun _ => ite_eq_of (fun hc => absurd hc (by omega)) (fun _ => rfl)) (fun hc => absurd (by omega) hc)))))))) (fun hc => absurd (by omega) hc))
            · refine w_iload rfl rfl ?_
              refine w_iload rfl rfl ?_
              refine w_icmp_gtZ (b := 9999) rfl rfl (by decide) (fun h9 => ?_) (fun h9 => ?_)
              · refine w_pushI rfl ?_
                refine w_iret rfl (Or.inr ⟨rfl, by decide⟩) ?_
                show gW _ _ _ _ _ _ _ _ _ _
                refine w_iret rfl (Or.inr ⟨rfl, by decide⟩) ?_
                show gW _ _ _ _ _ _ _ _ _ _
                refine w_if_eq rfl (fun _ => ?_) (fun h => absurd (by decide) h)
                refine w_pushI rfl ?_
                refine w_iret rfl (Or.inl rfl) ?_
                exact congrArg (fun v => some (Value.int v)) (show ((-1) : Int32) = f1_mend (0) (11) c by have e0 : (0 : Int32).toInt = 0 := rfl; have e1 : (11 : Int32).toInt = 11 := rfl; exact ite_eq_of (fun _ => ite_eq_of (fun hc => absurd hc (by omega)) (fun _ => ite_eq_of (fun hc => absurd hc (by omega)) (fun _ => ite_eq_of (fun hc => absurd hc (by omega)) (fun _ => ite_eq_of (fun hc => absurd hc (by omega)) (fun _ => ite_eq_of (fun hc => absurd hc (by omega)) (fun _ => ite_eq_of (fun hc => absurd hc (by omega)) (fun _ => ite_eq_of (fun _ => ite_eq_of (fun hc => absurd hc (by omega)) (fun _ => rfl)) (fun hc => absurd (by omega) hc)))))))) (fun hc => absurd (by omega) hc))
              · refine w_pushI rfl ?_
                refine w_goto rfl ?_
                refine w_iret rfl (Or.inr ⟨rfl, by decide⟩) ?_
                show gW _ _ _ _ _ _ _ _ _ _
                refine w_iret rfl (Or.inr ⟨rfl, by decide⟩) ?_
                show gW _ _ _ _ _ _ _ _ _ _
                refine w_if_eq rfl (fun h => absurd h (by decide)) (fun _ => ?_)
                refine w_aload rfl rfl ?_
                refine w_iload rfl rfl ?_
                refine w_topv (z := 11) (by decide) ?_
                refine w_iload rfl rfl ?_
                refine w_topv (z := 0) (by decide) ?_
                refine w_iload rfl rfl ?_
                refine w_callVi (As := [_, _, _]) (le := [some _, some _, some _, some _, none, none]) rfl rfl rfl (Nat.le_of_ble_eq_true rfl) (Nat.le_of_ble_eq_true rfl) rfl ?_
                refine w_aload rfl rfl ?_
                refine w_iload rfl rfl ?_
                refine w_iload rfl rfl ?_
                refine w_callVi (As := [_, _]) (le := [some _, some _, some _]) rfl rfl rfl (Nat.le_of_ble_eq_true rfl) (Nat.le_of_ble_eq_true rfl) rfl ?_
                refine w_iload rfl rfl ?_
                refine w_swO (x := 11) rfl (show ∀ q ∈ [((0 : Int32), 36), ((1 : Int32), 43), ((2 : Int32), 50), ((3 : Int32), 57), ((4 : Int32), 64)], ¬ (11 : Int32) = q.1 by decide) ?_
                refine w_aload rfl rfl ?_
                refine w_getR (r := 56) rfl rfl (hR _ fmR_50_7 (by decide)) ?_
                refine w_iload rfl rfl ?_
                refine w_pushI rfl ?_
                refine w_isubv (z := 6) rfl (by decide) ?_
                refine w_ialdv (j := 6) (x := 20) rfl rfl (by decide) (by unfold vp_in; decide) (hI _ fmI_56_6 (by decide)) ?_
                refine w_iret rfl (Or.inl rfl) ?_
                show gW _ _ _ _ _ _ _ _ _ _
                refine w_istore rfl rfl ?_
                refine w_iload rfl rfl ?_
                refine w_iload rfl rfl ?_
                refine w_icmp_neZ (a := 20) rfl (by decide) rfl (fun h10 => ?_) (fun h10 => ?_)
                · refine w_aload rfl rfl ?_
                  refine w_pushI rfl ?_
                  refine w_putI rfl rfl ?_
                  refine w_aload rfl rfl ?_
                  refine w_getIv (x := 0) rfl rfl ((gU_n (by decide)).trans (hI _ fmI_50_8 (by decide))) ?_
                  refine w_pushI rfl ?_
                  refine w_icmp_ne rfl (fun _ => ?_) (fun h => absurd h (by decide))
                  refine w_aload rfl rfl ?_
                  refine w_getR (r := 57) rfl rfl (hR _ fmR_50_10 (by decide)) ?_
                  refine w_aload rfl rfl ?_
                  refine w_getIv (x := 0) rfl rfl ((gU_n (by decide)).trans (hI _ fmI_50_8 (by decide))) ?_
                  refine w_iload rfl rfl ?_
                  refine w_iastv (j := 0) rfl rfl (by decide) (by unfold vp_in; decide) rfl ?_
                  refine w_aload rfl rfl ?_
                  refine w_getR (r := 58) rfl rfl (hR _ fmR_50_11 (by decide)) ?_
                  refine w_aload rfl rfl ?_
                  refine w_getIv (x := 0) rfl rfl ((gU_n (by decide)).trans ((gU_n (by decide)).trans (hI _ fmI_50_8 (by decide)))) ?_
                  refine w_iload rfl rfl ?_
                  refine w_iastv (j := 0) rfl rfl (by decide) (by unfold vp_in; decide) rfl ?_
                  refine w_aload rfl rfl ?_
                  refine w_getR (r := 59) rfl rfl (hR _ fmR_50_12 (by decide)) ?_
                  refine w_aload rfl rfl ?_
                  refine w_getIv (x := 0) rfl rfl ((gU_n (by decide)).trans ((gU_n (by decide)).trans ((gU_n (by decide)).trans (hI _ fmI_50_8 (by decide))))) ?_
                  refine w_iload rfl rfl ?_
                  refine w_iastv (j := 0) rfl rfl (by decide) (by unfold vp_in; decide) rfl ?_
                  refine w_aload rfl rfl ?_
                  refine w_getR (r := 60) rfl rfl (hR _ fmR_50_13 (by decide)) ?_
                  refine w_aload rfl rfl ?_
                  refine w_getIv (x := 0) rfl rfl ((gU_n (by decide)).trans ((gU_n (by decide)).trans ((gU_n (by decide)).trans ((gU_n (by decide)).trans (hI _ fmI_50_8 (by decide)))))) ?_
                  refine w_iload rfl rfl ?_
                  refine w_iastv (j := 0) rfl rfl (by decide) (by unfold vp_in; decide) rfl ?_
                  refine w_aload rfl rfl ?_
                  refine w_dup rfl rfl ?_
                  refine w_getIv (x := 0) rfl rfl ((gU_n (by decide)).trans ((gU_n (by decide)).trans ((gU_n (by decide)).trans ((gU_n (by decide)).trans ((gU_n (by decide)).trans (hI _ fmI_50_8 (by decide))))))) ?_
                  refine w_pushI rfl ?_
                  refine w_iaddv (z := 1) rfl (by decide) ?_
                  refine w_putI rfl rfl ?_
                  refine w_aload rfl rfl ?_
                  refine w_iload rfl rfl ?_
                  refine w_iload rfl rfl ?_
                  refine w_iload rfl rfl ?_
                  refine w_callVi (As := [_, _, _]) (le := [some _, some _, some _, some _]) rfl rfl rfl (Nat.le_of_ble_eq_true rfl) (Nat.le_of_ble_eq_true rfl) rfl ?_
                  refine w_iload rfl rfl ?_
                  refine w_swO (x := 11) rfl (show ∀ q ∈ [((0 : Int32), 36), ((1 : Int32), 46), ((2 : Int32), 56), ((3 : Int32), 66), ((4 : Int32), 76)], ¬ (11 : Int32) = q.1 by decide) ?_
                  refine w_aload rfl rfl ?_
                  refine w_getR (r := 56) rfl rfl (hR _ fmR_50_7 (by decide)) ?_
                  refine w_iload rfl rfl ?_
                  refine w_pushI rfl ?_
                  refine w_isubv (z := 6) rfl (by decide) ?_
                  refine w_iload rfl rfl ?_
                  refine w_iastv (j := 6) rfl rfl (by decide) (by unfold vp_in; decide) rfl ?_
                  refine w_vret rfl rfl ?_
                  show gW _ _ _ _ _ _ _ _ _ _
                  refine w_iload rfl rfl ?_
                  refine w_iret rfl (Or.inl rfl) ?_
                  show gW _ _ _ _ _ _ _ _ _ _
                  refine w_goto rfl ?_
                  refine w_iret rfl (Or.inl rfl) ?_
                  exact congrArg (fun v => some (Value.int v)) (show (20 : Int32) = f1_mend (0) (11) c by have e0 : (0 : Int32).toInt = 0 := rfl; have e1 : (11 : Int32).toInt = 11 := rfl; exact ite_eq_of (fun _ => ite_eq_of (fun hc => absurd hc (by omega)) (fun _ => ite_eq_of (fun hc => absurd hc (by omega)) (fun _ => ite_eq_of (fun hc => absurd hc (by omega)) (fun _ => ite_eq_of (fun hc => absurd hc (by omega)) (fun _ => ite_eq_of (fun hc => absurd hc (by omega)) (fun _ => ite_eq_of (fun hc => absurd hc (by omega)) (fun _ => ite_eq_of (fun _ => ite_eq_of (fun _ => rfl) (fun hc => absurd (by omega) hc)) (fun hc => absurd (by omega) hc)))))))) (fun hc => absurd (by omega) hc))
                · obtain rfl : c = 20 := i_is (show c.toInt = 20 by omega) (by decide)
                  refine w_iload rfl rfl ?_
                  refine w_iret rfl (Or.inl rfl) ?_
                  show gW _ _ _ _ _ _ _ _ _ _
                  refine w_goto rfl ?_
                  refine w_iret rfl (Or.inl rfl) ?_
                  exact congrArg (fun v => some (Value.int v)) (show (20 : Int32) = f1_mend (0) (11) (20) by have e0 : (0 : Int32).toInt = 0 := rfl; have e1 : (11 : Int32).toInt = 11 := rfl; have e2 : (20 : Int32).toInt = 20 := rfl; exact ite_eq_of (fun _ => ite_eq_of (fun hc => absurd hc (by omega)) (fun _ => ite_eq_of (fun hc => absurd hc (by omega)) (fun _ => ite_eq_of (fun hc => absurd hc (by omega)) (fun _ => ite_eq_of (fun hc => absurd hc (by omega)) (fun _ => ite_eq_of (fun hc => absurd hc (by omega)) (fun _ => ite_eq_of (fun hc => absurd hc (by omega)) (fun _ => ite_eq_of (fun _ => ite_eq_of (fun _ => rfl) (fun hc => absurd (by omega) hc)) (fun hc => absurd (by omega) hc)))))))) (fun hc => absurd (by omega) hc))
          · obtain rfl : b = 12 := i_is hs7 (by decide)
            refine w_swI (x := 12) (tg := 128) rfl (show ∃ q ∈ [((3 : Int32), 60), ((4 : Int32), 68), ((5 : Int32), 144), ((6 : Int32), 76), ((7 : Int32), 85), ((8 : Int32), 93), ((9 : Int32), 102), ((10 : Int32), 111), ((11 : Int32), 119), ((12 : Int32), 128), ((13 : Int32), 136)], (12 : Int32) = q.1 by decide) (show ∀ q ∈ [((3 : Int32), 60), ((4 : Int32), 68), ((5 : Int32), 144), ((6 : Int32), 76), ((7 : Int32), 85), ((8 : Int32), 93), ((9 : Int32), 102), ((10 : Int32), 111), ((11 : Int32), 119), ((12 : Int32), 128), ((13 : Int32), 136)], (12 : Int32) = q.1 → q.2 = 128 by decide) ?_
            refine w_iload rfl rfl ?_
            refine w_pushI rfl ?_
            refine w_pushI rfl ?_
            refine w_callSi (As := [_, _, _]) (le := [some _, some _, some _]) rfl rfl (Nat.le_of_ble_eq_true rfl) (Nat.le_of_ble_eq_true rfl) rfl ?_
            refine w_iload rfl rfl ?_
            refine w_iload rfl rfl ?_
            refine w_icmp_ltZ (b := 1) rfl rfl (by decide) (fun h8 => ?_) (fun h8 => ?_)
            · refine w_pushI rfl ?_
              refine w_iret rfl (Or.inr ⟨rfl, by decide⟩) ?_
              show gW _ _ _ _ _ _ _ _ _ _
              refine w_iret rfl (Or.inr ⟨rfl, by decide⟩) ?_
              show gW _ _ _ _ _ _ _ _ _ _
              refine w_if_eq rfl (fun _ => ?_) (fun h => absurd (by decide) h)
              refine w_pushI rfl ?_
              refine w_iret rfl (Or.inl rfl) ?_
              exact congrArg (fun v => some (Value.int v)) (show ((-1) : Int32) = f1_mend (0) (12) c by have e0 : (0 : Int32).toInt = 0 := rfl; have e1 : (12 : Int32).toInt = 12 := rfl; exact ite_eq_of (fun _ => ite_eq_of (fun hc => absurd hc (by omega)) (fun _ => ite_eq_of (fun hc => absurd hc (by omega)) (fun _ => ite_eq_of (fun hc => absurd hc (by omega)) (fun _ => ite_eq_of (fun hc => absurd hc (by omega)) (fun _ => ite_eq_of (fun hc => absurd hc (by omega)) (fun _ => ite_eq_of (fun hc => absurd hc (by omega)) (fun _ => ite_eq_of (fun hc => absurd hc (by omega)) (fun _ => ite_eq_of (fun _ => ite_eq_of (fun hc => absurd hc (by omega)) (fun _ => rfl)) (fun hc => absurd (by omega) hc))))))))) (fun hc => absurd (by omega) hc))
            · refine w_iload rfl rfl ?_
              refine w_iload rfl rfl ?_
              refine w_icmp_gtZ (b := 99) rfl rfl (by decide) (fun h9 => ?_) (fun h9 => ?_)
              · refine w_pushI rfl ?_
                refine w_iret rfl (Or.inr ⟨rfl, by decide⟩) ?_
                show gW _ _ _ _ _ _ _ _ _ _
                refine w_iret rfl (Or.inr ⟨rfl, by decide⟩) ?_
                show gW _ _ _ _ _ _ _ _ _ _
                refine w_if_eq rfl (fun _ => ?_) (fun h => absurd (by decide) h)
                refine w_pushI rfl ?_
                refine w_iret rfl (Or.inl rfl) ?_
                exact congrArg (fun v => some (Value.int v)) (show ((-1) : Int32) = f1_mend (0) (12) c by have e0 : (0 : Int32).toInt = 0 := rfl; have e1 : (12 : Int32).toInt = 12 := rfl; exact ite_eq_of (fun _ => ite_eq_of (fun hc => absurd hc (by omega)) (fun _ => ite_eq_of (fun hc => absurd hc (by omega)) (fun _ => ite_eq_of (fun hc => absurd hc (by omega)) (fun _ => ite_eq_of (fun hc => absurd hc (by omega)) (fun _ => ite_eq_of (fun hc => absurd hc (by omega)) (fun _ => ite_eq_of (fun hc => absurd hc (by omega)) (fun _ => ite_eq_of (fun hc => absurd hc (by omega)) (fun _ => ite_eq_of (fun _ => ite_eq_of (fun hc => absurd hc (by omega)) (fun _ => rfl)) (fun hc => absurd (by omega) hc))))))))) (fun hc => absurd (by omega) hc))
              · refine w_pushI rfl ?_
                refine w_goto rfl ?_
                refine w_iret rfl (Or.inr ⟨rfl, by decide⟩) ?_
                show gW _ _ _ _ _ _ _ _ _ _
                refine w_iret rfl (Or.inr ⟨rfl, by decide⟩) ?_
                show gW _ _ _ _ _ _ _ _ _ _
                refine w_if_eq rfl (fun h => absurd h (by decide)) (fun _ => ?_)
                refine w_aload rfl rfl ?_
                refine w_iload rfl rfl ?_
                refine w_topv (z := 12) (by decide) ?_
                refine w_iload rfl rfl ?_
                refine w_topv (z := 0) (by decide) ?_
                refine w_iload rfl rfl ?_
                refine w_callVi (As := [_, _, _]) (le := [some _, some _, some _, some _, none, none]) rfl rfl rfl (Nat.le_of_ble_eq_true rfl) (Nat.le_of_ble_eq_true rfl) rfl ?_
                refine w_aload rfl rfl ?_
                refine w_iload rfl rfl ?_
                refine w_iload rfl rfl ?_
                refine w_callVi (As := [_, _]) (le := [some _, some _, some _]) rfl rfl rfl (Nat.le_of_ble_eq_true rfl) (Nat.le_of_ble_eq_true rfl) rfl ?_
                refine w_iload rfl rfl ?_
                refine w_swO (x := 12) rfl (show ∀ q ∈ [((0 : Int32), 36), ((1 : Int32), 43), ((2 : Int32), 50), ((3 : Int32), 57), ((4 : Int32), 64)], ¬ (12 : Int32) = q.1 by decide) ?_
                refine w_aload rfl rfl ?_
                refine w_getR (r := 56) rfl rfl (hR _ fmR_50_7 (by decide)) ?_
                refine w_iload rfl rfl ?_
                refine w_pushI rfl ?_
                refine w_isubv (z := 7) rfl (by decide) ?_
                refine w_ialdv (j := 7) (x := 60) rfl rfl (by decide) (by unfold vp_in; decide) (hI _ fmI_56_7 (by decide)) ?_
                refine w_iret rfl (Or.inl rfl) ?_
                show gW _ _ _ _ _ _ _ _ _ _
                refine w_istore rfl rfl ?_
                refine w_iload rfl rfl ?_
                refine w_iload rfl rfl ?_
                refine w_icmp_neZ (a := 60) rfl (by decide) rfl (fun h10 => ?_) (fun h10 => ?_)
                · refine w_aload rfl rfl ?_
                  refine w_pushI rfl ?_
                  refine w_putI rfl rfl ?_
                  refine w_aload rfl rfl ?_
                  refine w_getIv (x := 0) rfl rfl ((gU_n (by decide)).trans (hI _ fmI_50_8 (by decide))) ?_
                  refine w_pushI rfl ?_
                  refine w_icmp_ne rfl (fun _ => ?_) (fun h => absurd h (by decide))
                  refine w_aload rfl rfl ?_
                  refine w_getR (r := 57) rfl rfl (hR _ fmR_50_10 (by decide)) ?_
                  refine w_aload rfl rfl ?_
                  refine w_getIv (x := 0) rfl rfl ((gU_n (by decide)).trans (hI _ fmI_50_8 (by decide))) ?_
                  refine w_iload rfl rfl ?_
                  refine w_iastv (j := 0) rfl rfl (by decide) (by unfold vp_in; decide) rfl ?_
                  refine w_aload rfl rfl ?_
                  refine w_getR (r := 58) rfl rfl (hR _ fmR_50_11 (by decide)) ?_
                  refine w_aload rfl rfl ?_
                  refine w_getIv (x := 0) rfl rfl ((gU_n (by decide)).trans ((gU_n (by decide)).trans (hI _ fmI_50_8 (by decide)))) ?_
                  refine w_iload rfl rfl ?_
                  refine w_iastv (j := 0) rfl rfl (by decide) (by unfold vp_in; decide) rfl ?_
                  refine w_aload rfl rfl ?_
                  refine w_getR (r := 59) rfl rfl (hR _ fmR_50_12 (by decide)) ?_
                  refine w_aload rfl rfl ?_
                  refine w_getIv (x := 0) rfl rfl ((gU_n (by decide)).trans ((gU_n (by decide)).trans ((gU_n (by decide)).trans (hI _ fmI_50_8 (by decide))))) ?_
                  refine w_iload rfl rfl ?_
                  refine w_iastv (j := 0) rfl rfl (by decide) (by unfold vp_in; decide) rfl ?_
                  refine w_aload rfl rfl ?_
                  refine w_getR (r := 60) rfl rfl (hR _ fmR_50_13 (by decide)) ?_
                  refine w_aload rfl rfl ?_
                  refine w_getIv (x := 0) rfl rfl ((gU_n (by decide)).trans ((gU_n (by decide)).trans ((gU_n (by decide)).trans ((gU_n (by decide)).trans (hI _ fmI_50_8 (by decide)))))) ?_
                  refine w_iload rfl rfl ?_
                  refine w_iastv (j := 0) rfl rfl (by decide) (by unfold vp_in; decide) rfl ?_
                  refine w_aload rfl rfl ?_
                  refine w_dup rfl rfl ?_
                  refine w_getIv (x := 0) rfl rfl ((gU_n (by decide)).trans ((gU_n (by decide)).trans ((gU_n (by decide)).trans ((gU_n (by decide)).trans ((gU_n (by decide)).trans (hI _ fmI_50_8 (by decide))))))) ?_
                  refine w_pushI rfl ?_
                  refine w_iaddv (z := 1) rfl (by decide) ?_
                  refine w_putI rfl rfl ?_
                  refine w_aload rfl rfl ?_
                  refine w_iload rfl rfl ?_
                  refine w_iload rfl rfl ?_
                  refine w_iload rfl rfl ?_
                  refine w_callVi (As := [_, _, _]) (le := [some _, some _, some _, some _]) rfl rfl rfl (Nat.le_of_ble_eq_true rfl) (Nat.le_of_ble_eq_true rfl) rfl ?_
                  refine w_iload rfl rfl ?_
                  refine w_swO (x := 12) rfl (show ∀ q ∈ [((0 : Int32), 36), ((1 : Int32), 46), ((2 : Int32), 56), ((3 : Int32), 66), ((4 : Int32), 76)], ¬ (12 : Int32) = q.1 by decide) ?_
                  refine w_aload rfl rfl ?_
                  refine w_getR (r := 56) rfl rfl (hR _ fmR_50_7 (by decide)) ?_
                  refine w_iload rfl rfl ?_
                  refine w_pushI rfl ?_
                  refine w_isubv (z := 7) rfl (by decide) ?_
                  refine w_iload rfl rfl ?_
                  refine w_iastv (j := 7) rfl rfl (by decide) (by unfold vp_in; decide) rfl ?_
                  refine w_vret rfl rfl ?_
                  show gW _ _ _ _ _ _ _ _ _ _
                  refine w_iload rfl rfl ?_
                  refine w_iret rfl (Or.inl rfl) ?_
                  show gW _ _ _ _ _ _ _ _ _ _
                  refine w_goto rfl ?_
                  refine w_iret rfl (Or.inl rfl) ?_
                  exact congrArg (fun v => some (Value.int v)) (show (60 : Int32) = f1_mend (0) (12) c by have e0 : (0 : Int32).toInt = 0 := rfl; have e1 : (12 : Int32).toInt = 12 := rfl; exact ite_eq_of (fun _ => ite_eq_of (fun hc => absurd hc (by omega)) (fun _ => ite_eq_of (fun hc => absurd hc (by omega)) (fun _ => ite_eq_of (fun hc => absurd hc (by omega)) (fun _ => ite_eq_of (fun hc => absurd hc (by omega)) (fun _ => ite_eq_of (fun hc => absurd hc (by omega)) (fun _ => ite_eq_of (fun hc => absurd hc (by omega)) (fun _ => ite_eq_of (fun hc => absurd hc (by omega)) (fun _ => ite_eq_of (fun _ => ite_eq_of (fun _ => rfl) (fun hc => absurd (by omega) hc)) (fun hc => absurd (by omega) hc))))))))) (fun hc => absurd (by omega) hc))
                · obtain rfl : c = 60 := i_is (show c.toInt = 60 by omega) (by decide)
                  refine w_iload rfl rfl ?_
                  refine w_iret rfl (Or.inl rfl) ?_
                  show gW _ _ _ _ _ _ _ _ _ _
                  refine w_goto rfl ?_
                  refine w_iret rfl (Or.inl rfl) ?_
                  exact congrArg (fun v => some (Value.int v)) (show (60 : Int32) = f1_mend (0) (12) (60) by have e0 : (0 : Int32).toInt = 0 := rfl; have e1 : (12 : Int32).toInt = 12 := rfl; have e2 : (60 : Int32).toInt = 60 := rfl; exact ite_eq_of (fun _ => ite_eq_of (fun hc => absurd hc (by omega)) (fun _ => ite_eq_of (fun hc => absurd hc (by omega)) (fun _ => ite_eq_of (fun hc => absurd hc (by omega)) (fun _ => ite_eq_of (fun hc => absurd hc (by omega)) (fun _ => ite_eq_of (fun hc => absurd hc (by omega)) (fun _ => ite_eq_of (fun hc => absurd hc (by omega)) (fun _ => ite_eq_of (fun hc => absurd hc (by omega)) (fun _ => ite_eq_of (fun _ => ite_eq_of (fun _ => rfl) (fun hc => absurd (by omega) hc)) (fun hc => absurd (by omega) hc))))))))) (fun hc => absurd (by omega) hc))
          · obtain rfl : b = 13 := i_is hs7 (by decide)
            refine w_swI (x := 13) (tg := 136) rfl (show ∃ q ∈ [((3 : Int32), 60), ((4 : Int32), 68), ((5 : Int32), 144), ((6 : Int32), 76), ((7 : Int32), 85), ((8 : Int32), 93), ((9 : Int32), 102), ((10 : Int32), 111), ((11 : Int32), 119), ((12 : Int32), 128), ((13 : Int32), 136)], (13 : Int32) = q.1 by decide) (show ∀ q ∈ [((3 : Int32), 60), ((4 : Int32), 68), ((5 : Int32), 144), ((6 : Int32), 76), ((7 : Int32), 85), ((8 : Int32), 93), ((9 : Int32), 102), ((10 : Int32), 111), ((11 : Int32), 119), ((12 : Int32), 128), ((13 : Int32), 136)], (13 : Int32) = q.1 → q.2 = 136 by decide) ?_
            refine w_iload rfl rfl ?_
            refine w_pushI rfl ?_
            refine w_pushI rfl ?_
            refine w_callSi (As := [_, _, _]) (le := [some _, some _, some _]) rfl rfl (Nat.le_of_ble_eq_true rfl) (Nat.le_of_ble_eq_true rfl) rfl ?_
            refine w_iload rfl rfl ?_
            refine w_iload rfl rfl ?_
            refine w_icmp_ltZ (b := 1) rfl rfl (by decide) (fun h8 => ?_) (fun h8 => ?_)
            · refine w_pushI rfl ?_
              refine w_iret rfl (Or.inr ⟨rfl, by decide⟩) ?_
              show gW _ _ _ _ _ _ _ _ _ _
              refine w_iret rfl (Or.inr ⟨rfl, by decide⟩) ?_
              show gW _ _ _ _ _ _ _ _ _ _
              refine w_if_eq rfl (fun _ => ?_) (fun h => absurd (by decide) h)
              refine w_pushI rfl ?_
              refine w_iret rfl (Or.inl rfl) ?_
              exact congrArg (fun v => some (Value.int v)) (show ((-1) : Int32) = f1_mend (0) (13) c by have e0 : (0 : Int32).toInt = 0 := rfl; have e1 : (13 : Int32).toInt = 13 := rfl; exact ite_eq_of (fun _ => ite_eq_of (fun hc => absurd hc (by omega)) (fun _ => ite_eq_of (fun hc => absurd hc (by omega)) (fun _ => ite_eq_of (fun hc => absurd hc (by omega)) (fun _ => ite_eq_of (fun hc => absurd hc (by omega)) (fun _ => ite_eq_of (fun hc => absurd hc (by omega)) (fun _ => ite_eq_of (fun hc => absurd hc (by omega)) (fun _ => ite_eq_of (fun hc => absurd hc (by omega)) (fun _ => ite_eq_of (fun hc => absurd hc (by omega)) (fun _ => ite_eq_of (fun _ => ite_eq_of (fun hc => absurd hc (by omega)) (fun _ => rfl)) (fun hc => absurd (by omega) hc)))))))))) (fun hc => absurd (by omega) hc))
            · refine w_iload rfl rfl ?_
              refine w_iload rfl rfl ?_
              refine w_icmp_gtZ (b := 99) rfl rfl (by decide) (fun h9 => ?_) (fun h9 => ?_)
              · refine w_pushI rfl ?_
                refine w_iret rfl (Or.inr ⟨rfl, by decide⟩) ?_
                show gW _ _ _ _ _ _ _ _ _ _
                refine w_iret rfl (Or.inr ⟨rfl, by decide⟩) ?_
                show gW _ _ _ _ _ _ _ _ _ _
                refine w_if_eq rfl (fun _ => ?_) (fun h => absurd (by decide) h)
                refine w_pushI rfl ?_
                refine w_iret rfl (Or.inl rfl) ?_
                exact congrArg (fun v => some (Value.int v)) (show ((-1) : Int32) = f1_mend (0) (13) c by have e0 : (0 : Int32).toInt = 0 := rfl; have e1 : (13 : Int32).toInt = 13 := rfl; exact ite_eq_of (fun _ => ite_eq_of (fun hc => absurd hc (by omega)) (fun _ => ite_eq_of (fun hc => absurd hc (by omega)) (fun _ => ite_eq_of (fun hc => absurd hc (by omega)) (fun _ => ite_eq_of (fun hc => absurd hc (by omega)) (fun _ => ite_eq_of (fun hc => absurd hc (by omega)) (fun _ => ite_eq_of (fun hc => absurd hc (by omega)) (fun _ => ite_eq_of (fun hc => absurd hc (by omega)) (fun _ => ite_eq_of (fun hc => absurd hc (by omega)) (fun _ => ite_eq_of (fun _ => ite_eq_of (fun hc => absurd hc (by omega)) (fun _ => rfl)) (fun hc => absurd (by omega) hc)))))))))) (fun hc => absurd (by omega) hc))
              · refine w_pushI rfl ?_
                refine w_goto rfl ?_
                refine w_iret rfl (Or.inr ⟨rfl, by decide⟩) ?_
                show gW _ _ _ _ _ _ _ _ _ _
                refine w_iret rfl (Or.inr ⟨rfl, by decide⟩) ?_
                show gW _ _ _ _ _ _ _ _ _ _
                refine w_if_eq rfl (fun h => absurd h (by decide)) (fun _ => ?_)
                refine w_aload rfl rfl ?_
                refine w_iload rfl rfl ?_
                refine w_topv (z := 13) (by decide) ?_
                refine w_iload rfl rfl ?_
                refine w_topv (z := 0) (by decide) ?_
                refine w_iload rfl rfl ?_
                refine w_callVi (As := [_, _, _]) (le := [some _, some _, some _, some _, none, none]) rfl rfl rfl (Nat.le_of_ble_eq_true rfl) (Nat.le_of_ble_eq_true rfl) rfl ?_
                refine w_aload rfl rfl ?_
                refine w_iload rfl rfl ?_
                refine w_iload rfl rfl ?_
                refine w_callVi (As := [_, _]) (le := [some _, some _, some _]) rfl rfl rfl (Nat.le_of_ble_eq_true rfl) (Nat.le_of_ble_eq_true rfl) rfl ?_
                refine w_iload rfl rfl ?_
                refine w_swO (x := 13) rfl (show ∀ q ∈ [((0 : Int32), 36), ((1 : Int32), 43), ((2 : Int32), 50), ((3 : Int32), 57), ((4 : Int32), 64)], ¬ (13 : Int32) = q.1 by decide) ?_
                refine w_aload rfl rfl ?_
                refine w_getR (r := 56) rfl rfl (hR _ fmR_50_7 (by decide)) ?_
                refine w_iload rfl rfl ?_
                refine w_pushI rfl ?_
                refine w_isubv (z := 8) rfl (by decide) ?_
                refine w_ialdv (j := 8) (x := 20) rfl rfl (by decide) (by unfold vp_in; decide) (hI _ fmI_56_8 (by decide)) ?_
                refine w_iret rfl (Or.inl rfl) ?_
                show gW _ _ _ _ _ _ _ _ _ _
                refine w_istore rfl rfl ?_
                refine w_iload rfl rfl ?_
                refine w_iload rfl rfl ?_
                refine w_icmp_neZ (a := 20) rfl (by decide) rfl (fun h10 => ?_) (fun h10 => ?_)
                · refine w_aload rfl rfl ?_
                  refine w_pushI rfl ?_
                  refine w_putI rfl rfl ?_
                  refine w_aload rfl rfl ?_
                  refine w_getIv (x := 0) rfl rfl ((gU_n (by decide)).trans (hI _ fmI_50_8 (by decide))) ?_
                  refine w_pushI rfl ?_
                  refine w_icmp_ne rfl (fun _ => ?_) (fun h => absurd h (by decide))
                  refine w_aload rfl rfl ?_
                  refine w_getR (r := 57) rfl rfl (hR _ fmR_50_10 (by decide)) ?_
                  refine w_aload rfl rfl ?_
                  refine w_getIv (x := 0) rfl rfl ((gU_n (by decide)).trans (hI _ fmI_50_8 (by decide))) ?_
                  refine w_iload rfl rfl ?_
                  refine w_iastv (j := 0) rfl rfl (by decide) (by unfold vp_in; decide) rfl ?_
                  refine w_aload rfl rfl ?_
                  refine w_getR (r := 58) rfl rfl (hR _ fmR_50_11 (by decide)) ?_
                  refine w_aload rfl rfl ?_
                  refine w_getIv (x := 0) rfl rfl ((gU_n (by decide)).trans ((gU_n (by decide)).trans (hI _ fmI_50_8 (by decide)))) ?_
                  refine w_iload rfl rfl ?_
                  refine w_iastv (j := 0) rfl rfl (by decide) (by unfold vp_in; decide) rfl ?_
                  refine w_aload rfl rfl ?_
                  refine w_getR (r := 59) rfl rfl (hR _ fmR_50_12 (by decide)) ?_
                  refine w_aload rfl rfl ?_
                  refine w_getIv (x := 0) rfl rfl ((gU_n (by decide)).trans ((gU_n (by decide)).trans ((gU_n (by decide)).trans (hI _ fmI_50_8 (by decide))))) ?_
                  refine w_iload rfl rfl ?_
                  refine w_iastv (j := 0) rfl rfl (by decide) (by unfold vp_in; decide) rfl ?_
                  refine w_aload rfl rfl ?_
                  refine w_getR (r := 60) rfl rfl (hR _ fmR_50_13 (by decide)) ?_
                  refine w_aload rfl rfl ?_
                  refine w_getIv (x := 0) rfl rfl ((gU_n (by decide)).trans ((gU_n (by decide)).trans ((gU_n (by decide)).trans ((gU_n (by decide)).trans (hI _ fmI_50_8 (by decide)))))) ?_
                  refine w_iload rfl rfl ?_
                  refine w_iastv (j := 0) rfl rfl (by decide) (by unfold vp_in; decide) rfl ?_
                  refine w_aload rfl rfl ?_
                  refine w_dup rfl rfl ?_
                  refine w_getIv (x := 0) rfl rfl ((gU_n (by decide)).trans ((gU_n (by decide)).trans ((gU_n (by decide)).trans ((gU_n (by decide)).trans ((gU_n (by decide)).trans (hI _ fmI_50_8 (by decide))))))) ?_
                  refine w_pushI rfl ?_
                  refine w_iaddv (z := 1) rfl (by decide) ?_
                  refine w_putI rfl rfl ?_
                  refine w_aload rfl rfl ?_
                  refine w_iload rfl rfl ?_
                  refine w_iload rfl rfl ?_
                  refine w_iload rfl rfl ?_
                  refine w_callVi (As := [_, _, _]) (le := [some _, some _, some _, some _]) rfl rfl rfl (Nat.le_of_ble_eq_true rfl) (Nat.le_of_ble_eq_true rfl) rfl ?_
                  refine w_iload rfl rfl ?_
                  refine w_swO (x := 13) rfl (show ∀ q ∈ [((0 : Int32), 36), ((1 : Int32), 46), ((2 : Int32), 56), ((3 : Int32), 66), ((4 : Int32), 76)], ¬ (13 : Int32) = q.1 by decide) ?_
                  refine w_aload rfl rfl ?_
                  refine w_getR (r := 56) rfl rfl (hR _ fmR_50_7 (by decide)) ?_
                  refine w_iload rfl rfl ?_
                  refine w_pushI rfl ?_
                  refine w_isubv (z := 8) rfl (by decide) ?_
                  refine w_iload rfl rfl ?_
                  refine w_iastv (j := 8) rfl rfl (by decide) (by unfold vp_in; decide) rfl ?_
                  refine w_vret rfl rfl ?_
                  show gW _ _ _ _ _ _ _ _ _ _
                  refine w_iload rfl rfl ?_
                  refine w_iret rfl (Or.inl rfl) ?_
                  show gW _ _ _ _ _ _ _ _ _ _
                  refine w_goto rfl ?_
                  refine w_iret rfl (Or.inl rfl) ?_
                  exact congrArg (fun v => some (Value.int v)) (show (20 : Int32) = f1_mend (0) (13) c by have e0 : (0 : Int32).toInt = 0 := rfl; have e1 : (13 : Int32).toInt = 13 := rfl; exact ite_eq_of (fun _ => ite_eq_of (fun hc => absurd hc (by omega)) (fun _ => ite_eq_of (fun hc => absurd hc (by omega)) (fun _ => ite_eq_of (fun hc => absurd hc (by omega)) (fun _ => ite_eq_of (fun hc => absurd hc (by omega)) (fun _ => ite_eq_of (fun hc => absurd hc (by omega)) (fun _ => ite_eq_of (fun hc => absurd hc (by omega)) (fun _ => ite_eq_of (fun hc => absurd hc (by omega)) (fun _ => ite_eq_of (fun hc => absurd hc (by omega)) (fun _ => ite_eq_of (fun _ => ite_eq_of (fun _ => rfl) (fun hc => absurd (by omega) hc)) (fun hc => absurd (by omega) hc)))))))))) (fun hc => absurd (by omega) hc))
                · obtain rfl : c = 20 := i_is (show c.toInt = 20 by omega) (by decide)
                  refine w_iload rfl rfl ?_
                  refine w_iret rfl (Or.inl rfl) ?_
                  show gW _ _ _ _ _ _ _ _ _ _
                  refine w_goto rfl ?_
                  refine w_iret rfl (Or.inl rfl) ?_
                  exact congrArg (fun v => some (Value.int v)) (show (20 : Int32) = f1_mend (0) (13) (20) by have e0 : (0 : Int32).toInt = 0 := rfl; have e1 : (13 : Int32).toInt = 13 := rfl; have e2 : (20 : Int32).toInt = 20 := rfl; exact ite_eq_of (fun _ => ite_eq_of (fun hc => absurd hc (by omega)) (fun _ => ite_eq_of (fun hc => absurd hc (by omega)) (fun _ => ite_eq_of (fun hc => absurd hc (by omega)) (fun _ => ite_eq_of (fun hc => absurd hc (by omega)) (fun _ => ite_eq_of (fun hc => absurd hc (by omega)) (fun _ => ite_eq_of (fun hc => absurd hc (by omega)) (fun _ => ite_eq_of (fun hc => absurd hc (by omega)) (fun _ => ite_eq_of (fun hc => absurd hc (by omega)) (fun _ => ite_eq_of (fun _ => ite_eq_of (fun _ => rfl) (fun hc => absurd (by omega) hc)) (fun hc => absurd (by omega) hc)))))))))) (fun hc => absurd (by omega) hc))
    · refine w_pushI rfl ?_
      refine w_goto rfl ?_
      refine w_iret rfl (Or.inr ⟨rfl, by decide⟩) ?_
      show gW _ _ _ _ _ _ _ _ _ _
      refine w_if_eq rfl (fun h => absurd h (by decide)) (fun _ => ?_)
      refine w_aload rfl rfl ?_
      refine w_iload rfl rfl ?_
      refine w_callVi (As := [_]) (le := [some _, some _]) rfl rfl rfl (Nat.le_of_ble_eq_true rfl) (Nat.le_of_ble_eq_true rfl) rfl ?_
      refine w_iload rfl rfl ?_
      refine w_pushI rfl ?_
      refine w_aload rfl rfl ?_
      refine w_getIv (x := 0) rfl rfl (hI _ fmI_50_1 (by decide)) ?_
      refine w_pushI rfl ?_
      refine w_isubv (z := (-1)) rfl (by decide) ?_
      refine w_callSi (As := [_, _, _]) (le := [some _, some _, some _]) rfl rfl (Nat.le_of_ble_eq_true rfl) (Nat.le_of_ble_eq_true rfl) rfl ?_
      refine w_iload rfl rfl ?_
      refine w_iload rfl rfl ?_
      refine w_icmp_ltZ (b := 0) rfl rfl (by decide) (fun h3 => ?_) (fun h3 => ?_)
      · refine w_pushI rfl ?_
        refine w_iret rfl (Or.inr ⟨rfl, by decide⟩) ?_
        show gW _ _ _ _ _ _ _ _ _ _
        refine w_iret rfl (Or.inr ⟨rfl, by decide⟩) ?_
        show gW _ _ _ _ _ _ _ _ _ _
        refine w_goto rfl ?_
        refine w_iret rfl (Or.inr ⟨rfl, by decide⟩) ?_
        show gW _ _ _ _ _ _ _ _ _ _
        refine w_if_eq rfl (fun _ => ?_) (fun h => absurd (by decide) h)
        refine w_pushI rfl ?_
        refine w_iret rfl (Or.inl rfl) ?_
        exact congrArg (fun v => some (Value.int v)) (show ((-1) : Int32) = f1_mend a b c by exact ite_eq_of (fun hc => absurd hc (by omega)) (fun _ => rfl))
      · refine w_iload rfl rfl ?_
        refine w_iload rfl rfl ?_
        refine w_icmp_gtZ (b := (-1)) rfl rfl (by decide) (fun h4 => ?_) (fun h4 => by exfalso; omega)
        refine w_pushI rfl ?_
        refine w_iret rfl (Or.inr ⟨rfl, by decide⟩) ?_
        show gW _ _ _ _ _ _ _ _ _ _
        refine w_iret rfl (Or.inr ⟨rfl, by decide⟩) ?_
        show gW _ _ _ _ _ _ _ _ _ _
        refine w_goto rfl ?_
        refine w_iret rfl (Or.inr ⟨rfl, by decide⟩) ?_
        show gW _ _ _ _ _ _ _ _ _ _
        refine w_if_eq rfl (fun _ => ?_) (fun h => absurd (by decide) h)
        refine w_pushI rfl ?_
        refine w_iret rfl (Or.inl rfl) ?_
        exact congrArg (fun v => some (Value.int v)) (show ((-1) : Int32) = f1_mend a b c by exact ite_eq_of (fun hc => ite_eq_of (fun hc => absurd hc (by omega)) (fun _ => ite_eq_of (fun hc => absurd hc (by omega)) (fun _ => ite_eq_of (fun hc => absurd hc (by omega)) (fun _ => ite_eq_of (fun hc => absurd hc (by omega)) (fun _ => ite_eq_of (fun hc => absurd hc (by omega)) (fun _ => ite_eq_of (fun hc => absurd hc (by omega)) (fun _ => ite_eq_of (fun hc => absurd hc (by omega)) (fun _ => ite_eq_of (fun hc => absurd hc (by omega)) (fun _ => ite_eq_of (fun hc => absurd hc (by omega)) (fun _ => rfl)))))))))) (fun hc => rfl))
set_option maxHeartbeats 40000000 in
set_option maxRecDepth 100000 in
theorem a1_of {X : Nat × (Nat → Int32)} {d : Nat} {I : Nat → Nat → Int32} {L : Nat → Nat → Int64} {R : Nat → Nat → Option Nat} (hI : ∀ q ∈ gFlI, I q.1 q.2.1 = q.2.2) (hL : ∀ q ∈ gFlL, L q.1 q.2.1 = q.2.2) (hR : ∀ q ∈ gFlR, R q.1 q.2.1 = some q.2.2) (a : Int32) (b : Int32) : gW X (d + 12) 105 0 0 0 (gEn 105 [.ref 0, .int a, .int b]) [] (gK 87, I, L, R) (fun r σ => r = some (.int (f1_of a b)) ∧ gFr σ I L R) := by
  show gW _ _ _ _ _ _ [some (.ref 0), some (.int a), some (.int b)] _ _ _
  refine w_iload rfl rfl ?_
  refine w_pushI rfl ?_
  refine w_icmp_eqZ (b := 14) rfl rfl (by decide) (fun h1 => ?_) (fun h1 => ?_)
  · obtain rfl : b = 14 := i_is (show b.toInt = 14 by omega) (by decide)
    refine w_aload rfl rfl ?_
    refine w_getR (r := 8) rfl rfl (hR _ fmR_0_1) ?_
    refine w_iload rfl rfl ?_
    refine w_callVi (As := [_]) (le := [some _, some _]) rfl rfl rfl (Nat.le_of_ble_eq_true rfl) (Nat.le_of_ble_eq_true rfl) rfl ?_
    refine w_iload rfl rfl ?_
    refine w_if_ltZ rfl rfl (fun h3 => ?_) (fun h3 => ?_)
    · refine w_pushI rfl ?_
      refine w_iret rfl (Or.inr ⟨rfl, by decide⟩) ?_
      show gW _ _ _ _ _ _ _ _ _ _
      refine w_if_ne rfl (fun h => absurd (by decide) h) (fun _ => ?_)
      refine w_pushI rfl ?_
      refine w_iret rfl (Or.inl rfl) ?_
      exact ⟨congrArg (fun v => some (Value.int v)) (show ((-1) : Int32) = f1_of a (14) by have e0 : (14 : Int32).toInt = 14 := rfl; exact ite_eq_of (fun hc => absurd hc (by omega)) (fun _ => rfl)), rfl, fun x hx => rfl, fun x hx => rfl, fun x hx => rfl⟩
    · refine w_iload rfl rfl ?_
      refine w_aload rfl rfl ?_
      refine w_getIv (x := 0) rfl rfl (hI _ fmI_8_2) ?_
      refine w_icmp_geZ (b := 0) rfl rfl (by decide) (fun h4 => ?_) (fun h4 => by exfalso; omega)
      refine w_pushI rfl ?_
      refine w_iret rfl (Or.inr ⟨rfl, by decide⟩) ?_
      show gW _ _ _ _ _ _ _ _ _ _
      refine w_if_ne rfl (fun h => absurd (by decide) h) (fun _ => ?_)
      refine w_pushI rfl ?_
      refine w_iret rfl (Or.inl rfl) ?_
      exact ⟨congrArg (fun v => some (Value.int v)) (show ((-1) : Int32) = f1_of a (14) by have e0 : (14 : Int32).toInt = 14 := rfl; exact ite_eq_of (fun hc => ite_eq_of (fun hc => absurd hc (by omega)) (fun _ => ite_eq_of (fun hc => absurd hc (by omega)) (fun _ => ite_eq_of (fun hc => absurd hc (by omega)) (fun _ => ite_eq_of (fun hc => absurd hc (by omega)) (fun _ => ite_eq_of (fun hc => absurd hc (by omega)) (fun _ => ite_eq_of (fun hc => absurd hc (by omega)) (fun _ => ite_eq_of (fun hc => absurd hc (by omega)) (fun _ => ite_eq_of (fun hc => absurd hc (by omega)) (fun _ => ite_eq_of (fun hc => absurd hc (by omega)) (fun _ => rfl)))))))))) (fun hc => rfl)), rfl, fun x hx => rfl, fun x hx => rfl, fun x hx => rfl⟩
  · refine w_iload rfl rfl ?_
    refine w_pushI rfl ?_
    refine w_icmp_neZ (b := 15) rfl rfl (by decide) (fun h2 => ?_) (fun h2 => ?_)
    · refine w_aload rfl rfl ?_
      refine w_getR (r := 8) rfl rfl (hR _ fmR_0_1) ?_
      refine w_iload rfl rfl ?_
      refine w_iload rfl rfl ?_
      refine w_callVi (As := [_, _]) (le := [some _, some _, some _]) rfl rfl rfl (Nat.le_of_ble_eq_true rfl) (Nat.le_of_ble_eq_true rfl) rfl ?_
      refine w_aload rfl rfl ?_
      refine w_iload rfl rfl ?_
      refine w_iload rfl rfl ?_
      refine w_callVi (As := [_, _]) (le := [some _, some _, some _]) rfl rfl rfl (Nat.le_of_ble_eq_true rfl) (Nat.le_of_ble_eq_true rfl) rfl ?_
      refine w_iload rfl rfl ?_
      refine w_if_ltZ rfl rfl (fun h3 => ?_) (fun h3 => ?_)
      · refine w_pushI rfl ?_
        refine w_iret rfl (Or.inl rfl) ?_
        show gW _ _ _ _ _ _ _ _ _ _
        refine w_if_lt rfl (fun _ => ?_) (fun h => absurd (by decide) h)
        refine w_pushI rfl ?_
        refine w_iret rfl (Or.inr ⟨rfl, by decide⟩) ?_
        show gW _ _ _ _ _ _ _ _ _ _
        refine w_if_eq rfl (fun _ => ?_) (fun h => absurd (by decide) h)
        refine w_pushI rfl ?_
        refine w_iret rfl (Or.inl rfl) ?_
        exact ⟨congrArg (fun v => some (Value.int v)) (show ((-1) : Int32) = f1_of a b by exact ite_eq_of (fun hc => ite_eq_of (fun hc => absurd hc (by omega)) (fun _ => ite_eq_of (fun hc => absurd hc (by omega)) (fun _ => ite_eq_of (fun hc => absurd hc (by omega)) (fun _ => ite_eq_of (fun hc => absurd hc (by omega)) (fun _ => ite_eq_of (fun hc => absurd hc (by omega)) (fun _ => ite_eq_of (fun hc => absurd hc (by omega)) (fun _ => ite_eq_of (fun hc => absurd hc (by omega)) (fun _ => ite_eq_of (fun hc => absurd hc (by omega)) (fun _ => ite_eq_of (fun hc => absurd hc (by omega)) (fun _ => rfl)))))))))) (fun hc => rfl)), rfl, fun x hx => rfl, fun x hx => rfl, fun x hx => rfl⟩
      · refine w_iload rfl rfl ?_
        refine w_pushI rfl ?_
        refine w_icmp_ltZ (b := 14) rfl rfl (by decide) (fun h4 => ?_) (fun h4 => ?_)
        · refine w_iload rfl rfl ?_
          refine w_pushI rfl ?_
          refine w_icmp_geZ (b := 5) rfl rfl (by decide) (fun h5 => ?_) (fun h5 => ?_)
          · refine w_iload rfl rfl ?_
            refine w_if_neZ rfl rfl (fun h6 => ?_) (fun h6 => ?_)
            · refine w_pushI rfl ?_
              refine w_iret rfl (Or.inl rfl) ?_
              show gW _ _ _ _ _ _ _ _ _ _
              refine w_if_lt rfl (fun _ => ?_) (fun h => absurd (by decide) h)
              refine w_pushI rfl ?_
              refine w_iret rfl (Or.inr ⟨rfl, by decide⟩) ?_
              show gW _ _ _ _ _ _ _ _ _ _
              refine w_if_eq rfl (fun _ => ?_) (fun h => absurd (by decide) h)
              refine w_pushI rfl ?_
              refine w_iret rfl (Or.inl rfl) ?_
              exact ⟨congrArg (fun v => some (Value.int v)) (show ((-1) : Int32) = f1_of a b by exact ite_eq_of (fun hc => ite_eq_of (fun hc => (by exfalso; omega)) (fun hc => ite_eq_of (fun hc => (by exfalso; omega)) (fun hc => ite_eq_of (fun hc => (by exfalso; omega)) (fun hc => ite_eq_of (fun hc => (by exfalso; omega)) (fun hc => ite_eq_of (fun hc => (by exfalso; omega)) (fun hc => ite_eq_of (fun hc => (by exfalso; omega)) (fun hc => ite_eq_of (fun hc => (by exfalso; omega)) (fun hc => ite_eq_of (fun hc => (by exfalso; omega)) (fun hc => ite_eq_of (fun hc => (by exfalso; omega)) (fun hc => rfl)))))))))) (fun hc => rfl)), rfl, fun x hx => rfl, fun x hx => rfl, fun x hx => rfl⟩
            · obtain rfl : a = 0 := i_is (show a.toInt = 0 by omega) (by decide)
              refine w_pushI rfl ?_
              refine w_iload rfl rfl ?_
              refine w_iadd rfl ?_
              refine w_goto rfl ?_
              refine w_iret rfl (Or.inl rfl) ?_
              show gW _ _ _ _ _ _ _ _ _ _
              rcases (show b.toInt = 5 ∨ b.toInt = 6 ∨ b.toInt = 7 ∨ b.toInt = 8 ∨ b.toInt = 9 ∨ b.toInt = 10 ∨ b.toInt = 11 ∨ b.toInt = 12 ∨ b.toInt = 13 by omega) with hs8 | hs8 | hs8 | hs8 | hs8 | hs8 | hs8 | hs8 | hs8
              · obtain rfl : b = 5 := i_is hs8 (by decide)
                refine w_if_lt rfl (fun h => absurd h (by decide)) (fun _ => ?_)
                refine w_pushI rfl ?_
                refine w_goto rfl ?_
                refine w_iret rfl (Or.inr ⟨rfl, by decide⟩) ?_
                show gW _ _ _ _ _ _ _ _ _ _
                refine w_if_eq rfl (fun h => absurd h (by decide)) (fun _ => ?_)
                refine w_aload rfl rfl ?_
                refine w_getR (r := 8) rfl rfl (hR _ fmR_0_1) ?_
                refine w_iload rfl rfl ?_
                refine w_topv (z := 0) (by decide) ?_
                refine w_iload rfl rfl ?_
                refine w_topv (z := 5) (by decide) ?_
                refine w_callVi (As := [_, _]) (le := [some _, some _, some _, none]) rfl rfl rfl (Nat.le_of_ble_eq_true rfl) (Nat.le_of_ble_eq_true rfl) rfl ?_
                refine w_aload rfl rfl ?_
                refine w_iload rfl rfl ?_
                refine w_iload rfl rfl ?_
                refine w_callVi (As := [_, _]) (le := [some _, some _, some _]) rfl rfl rfl (Nat.le_of_ble_eq_true rfl) (Nat.le_of_ble_eq_true rfl) rfl ?_
                refine w_iload rfl rfl ?_
                refine w_if_lt rfl (fun h => absurd h (by decide)) (fun _ => ?_)
                refine w_iload rfl rfl ?_
                refine w_pushI rfl ?_
                refine w_icmp_lt rfl (fun _ => ?_) (fun h => absurd (by decide) h)
                refine w_iload rfl rfl ?_
                refine w_pushI rfl ?_
                refine w_icmp_ge rfl (fun _ => ?_) (fun h => absurd (by decide) h)
                refine w_iload rfl rfl ?_
                refine w_if_ne rfl (fun h => absurd (by decide) h) (fun _ => ?_)
                refine w_pushI rfl ?_
                refine w_iload rfl rfl ?_
                refine w_iaddv (z := 45) rfl (by decide) ?_
                refine w_goto rfl ?_
                refine w_iret rfl (Or.inl rfl) ?_
                show gW _ _ _ _ _ _ _ _ _ _
                refine w_istore rfl rfl ?_
                refine w_iload rfl rfl ?_
                refine w_if_ge rfl (fun _ => ?_) (fun h => absurd (by decide) h)
                refine w_aload rfl rfl ?_
                refine w_getR (r := 9) rfl rfl (hR _ fmR_8_1) ?_
                refine w_iload rfl rfl ?_
                refine w_ialdv (j := 45) (x := 0) rfl rfl (by decide) (by unfold vp_in; decide) (hI _ fmI_9_45) ?_
                refine w_iret rfl (Or.inl rfl) ?_
                show gW _ _ _ _ _ _ _ _ _ _
                refine w_goto rfl ?_
                refine w_iret rfl (Or.inl rfl) ?_
                exact ⟨congrArg (fun v => some (Value.int v)) (show (0 : Int32) = f1_of (0) (5) by have e0 : (0 : Int32).toInt = 0 := rfl; have e1 : (5 : Int32).toInt = 5 := rfl; exact ite_eq_of (fun _ => ite_eq_of (fun _ => rfl) (fun hc => absurd (by omega) hc)) (fun hc => absurd (by omega) hc)), rfl, fun x hx => rfl, fun x hx => rfl, fun x hx => rfl⟩
              · obtain rfl : b = 6 := i_is hs8 (by decide)
                refine w_if_lt rfl (fun h => absurd h (by decide)) (fun _ => ?_)
                refine w_pushI rfl ?_
                refine w_goto rfl ?_
                refine w_iret rfl (Or.inr ⟨rfl, by decide⟩) ?_
                show gW _ _ _ _ _ _ _ _ _ _
                refine w_if_eq rfl (fun h => absurd h (by decide)) (fun _ => ?_)
                refine w_aload rfl rfl ?_
                refine w_getR (r := 8) rfl rfl (hR _ fmR_0_1) ?_
                refine w_iload rfl rfl ?_
                refine w_topv (z := 0) (by decide) ?_
                refine w_iload rfl rfl ?_
                refine w_topv (z := 6) (by decide) ?_
                refine w_callVi (As := [_, _]) (le := [some _, some _, some _, none]) rfl rfl rfl (Nat.le_of_ble_eq_true rfl) (Nat.le_of_ble_eq_true rfl) rfl ?_
                refine w_aload rfl rfl ?_
                refine w_iload rfl rfl ?_
                refine w_iload rfl rfl ?_
                refine w_callVi (As := [_, _]) (le := [some _, some _, some _]) rfl rfl rfl (Nat.le_of_ble_eq_true rfl) (Nat.le_of_ble_eq_true rfl) rfl ?_
                refine w_iload rfl rfl ?_
                refine w_if_lt rfl (fun h => absurd h (by decide)) (fun _ => ?_)
                refine w_iload rfl rfl ?_
                refine w_pushI rfl ?_
                refine w_icmp_lt rfl (fun _ => ?_) (fun h => absurd (by decide) h)
                refine w_iload rfl rfl ?_
                refine w_pushI rfl ?_
                refine w_icmp_ge rfl (fun _ => ?_) (fun h => absurd (by decide) h)
                refine w_iload rfl rfl ?_
                refine w_if_ne rfl (fun h => absurd (by decide) h) (fun _ => ?_)
                refine w_pushI rfl ?_
                refine w_iload rfl rfl ?_
                refine w_iaddv (z := 46) rfl (by decide) ?_
                refine w_goto rfl ?_
                refine w_iret rfl (Or.inl rfl) ?_
                show gW _ _ _ _ _ _ _ _ _ _
                refine w_istore rfl rfl ?_
                refine w_iload rfl rfl ?_
                refine w_if_ge rfl (fun _ => ?_) (fun h => absurd (by decide) h)
                refine w_aload rfl rfl ?_
                refine w_getR (r := 9) rfl rfl (hR _ fmR_8_1) ?_
                refine w_iload rfl rfl ?_
                refine w_ialdv (j := 46) (x := 180) rfl rfl (by decide) (by unfold vp_in; decide) (hI _ fmI_9_46) ?_
                refine w_iret rfl (Or.inl rfl) ?_
                show gW _ _ _ _ _ _ _ _ _ _
                refine w_goto rfl ?_
                refine w_iret rfl (Or.inl rfl) ?_
                exact ⟨congrArg (fun v => some (Value.int v)) (show (180 : Int32) = f1_of (0) (6) by have e0 : (0 : Int32).toInt = 0 := rfl; have e1 : (6 : Int32).toInt = 6 := rfl; exact ite_eq_of (fun _ => ite_eq_of (fun hc => absurd hc (by omega)) (fun _ => ite_eq_of (fun _ => rfl) (fun hc => absurd (by omega) hc))) (fun hc => absurd (by omega) hc)), rfl, fun x hx => rfl, fun x hx => rfl, fun x hx => rfl⟩
              · obtain rfl : b = 7 := i_is hs8 (by decide)
                refine w_if_lt rfl (fun h => absurd h (by decide)) (fun _ => ?_)
                refine w_pushI rfl ?_
                refine w_goto rfl ?_
                refine w_iret rfl (Or.inr ⟨rfl, by decide⟩) ?_
                show gW _ _ _ _ _ _ _ _ _ _
                refine w_if_eq rfl (fun h => absurd h (by decide)) (fun _ => ?_)
                refine w_aload rfl rfl ?_
                refine w_getR (r := 8) rfl rfl (hR _ fmR_0_1) ?_
                refine w_iload rfl rfl ?_
                refine w_topv (z := 0) (by decide) ?_
                refine w_iload rfl rfl ?_
                refine w_topv (z := 7) (by decide) ?_
                refine w_callVi (As := [_, _]) (le := [some _, some _, some _, none]) rfl rfl rfl (Nat.le_of_ble_eq_true rfl) (Nat.le_of_ble_eq_true rfl) rfl ?_
                refine w_aload rfl rfl ?_
                refine w_iload rfl rfl ?_
                refine w_iload rfl rfl ?_
                refine w_callVi (As := [_, _]) (le := [some _, some _, some _]) rfl rfl rfl (Nat.le_of_ble_eq_true rfl) (Nat.le_of_ble_eq_true rfl) rfl ?_
                refine w_iload rfl rfl ?_
                refine w_if_lt rfl (fun h => absurd h (by decide)) (fun _ => ?_)
                refine w_iload rfl rfl ?_
                refine w_pushI rfl ?_
                refine w_icmp_lt rfl (fun _ => ?_) (fun h => absurd (by decide) h)
                refine w_iload rfl rfl ?_
                refine w_pushI rfl ?_
                refine w_icmp_ge rfl (fun _ => ?_) (fun h => absurd (by decide) h)
                refine w_iload rfl rfl ?_
                refine w_if_ne rfl (fun h => absurd (by decide) h) (fun _ => ?_)
                refine w_pushI rfl ?_
                refine w_iload rfl rfl ?_
                refine w_iaddv (z := 47) rfl (by decide) ?_
                refine w_goto rfl ?_
                refine w_iret rfl (Or.inl rfl) ?_
                show gW _ _ _ _ _ _ _ _ _ _
                refine w_istore rfl rfl ?_
                refine w_iload rfl rfl ?_
                refine w_if_ge rfl (fun _ => ?_) (fun h => absurd (by decide) h)
                refine w_aload rfl rfl ?_
                refine w_getR (r := 9) rfl rfl (hR _ fmR_8_1) ?_
                refine w_iload rfl rfl ?_
                refine w_ialdv (j := 47) (x := 20) rfl rfl (by decide) (by unfold vp_in; decide) (hI _ fmI_9_47) ?_
                refine w_iret rfl (Or.inl rfl) ?_
                show gW _ _ _ _ _ _ _ _ _ _
                refine w_goto rfl ?_
                refine w_iret rfl (Or.inl rfl) ?_
                exact ⟨congrArg (fun v => some (Value.int v)) (show (20 : Int32) = f1_of (0) (7) by have e0 : (0 : Int32).toInt = 0 := rfl; have e1 : (7 : Int32).toInt = 7 := rfl; exact ite_eq_of (fun _ => ite_eq_of (fun hc => absurd hc (by omega)) (fun _ => ite_eq_of (fun hc => absurd hc (by omega)) (fun _ => ite_eq_of (fun _ => rfl) (fun hc => absurd (by omega) hc)))) (fun hc => absurd (by omega) hc)), rfl, fun x hx => rfl, fun x hx => rfl, fun x hx => rfl⟩
              · obtain rfl : b = 8 := i_is hs8 (by decide)
                refine w_if_lt rfl (fun h => absurd h (by decide)) (fun _ => ?_)
                refine w_pushI rfl ?_
                refine w_goto rfl ?_
                refine w_iret rfl (Or.inr ⟨rfl, by decide⟩) ?_
                show gW _ _ _ _ _ _ _ _ _ _
                refine w_if_eq rfl (fun h => absurd h (by decide)) (fun _ => ?_)
                refine w_aload rfl rfl ?_
                refine w_getR (r := 8) rfl rfl (hR _ fmR_0_1) ?_
                refine w_iload rfl rfl ?_
                refine w_topv (z := 0) (by decide) ?_
                refine w_iload rfl rfl ?_
                refine w_topv (z := 8) (by decide) ?_
                refine w_callVi (As := [_, _]) (le := [some _, some _, some _, none]) rfl rfl rfl (Nat.le_of_ble_eq_true rfl) (Nat.le_of_ble_eq_true rfl) rfl ?_
                refine w_aload rfl rfl ?_
                refine w_iload rfl rfl ?_
                refine w_iload rfl rfl ?_
                refine w_callVi (As := [_, _]) (le := [some _, some _, some _]) rfl rfl rfl (Nat.le_of_ble_eq_true rfl) (Nat.le_of_ble_eq_true rfl) rfl ?_
                refine w_iload rfl rfl ?_
                refine w_if_lt rfl (fun h => absurd h (by decide)) (fun _ => ?_)
                refine w_iload rfl rfl ?_
                refine w_pushI rfl ?_
                refine w_icmp_lt rfl (fun _ => ?_) (fun h => absurd (by decide) h)
                refine w_iload rfl rfl ?_
                refine w_pushI rfl ?_
                refine w_icmp_ge rfl (fun _ => ?_) (fun h => absurd (by decide) h)
                refine w_iload rfl rfl ?_
                refine w_if_ne rfl (fun h => absurd (by decide) h) (fun _ => ?_)
                refine w_pushI rfl ?_
                refine w_iload rfl rfl ?_
                refine w_iaddv (z := 48) rfl (by decide) ?_
                refine w_goto rfl ?_
                refine w_iret rfl (Or.inl rfl) ?_
                show gW _ _ _ _ _ _ _ _ _ _
                refine w_istore rfl rfl ?_
                refine w_iload rfl rfl ?_
                refine w_if_ge rfl (fun _ => ?_) (fun h => absurd (by decide) h)
                refine w_aload rfl rfl ?_
                refine w_getR (r := 9) rfl rfl (hR _ fmR_8_1) ?_
                refine w_iload rfl rfl ?_
                refine w_ialdv (j := 48) (x := 60) rfl rfl (by decide) (by unfold vp_in; decide) (hI _ fmI_9_48) ?_
                refine w_iret rfl (Or.inl rfl) ?_
                show gW _ _ _ _ _ _ _ _ _ _
                refine w_goto rfl ?_
                refine w_iret rfl (Or.inl rfl) ?_
                exact ⟨congrArg (fun v => some (Value.int v)) (show (60 : Int32) = f1_of (0) (8) by have e0 : (0 : Int32).toInt = 0 := rfl; have e1 : (8 : Int32).toInt = 8 := rfl; exact ite_eq_of (fun _ => ite_eq_of (fun hc => absurd hc (by omega)) (fun _ => ite_eq_of (fun hc => absurd hc (by omega)) (fun _ => ite_eq_of (fun hc => absurd hc (by omega)) (fun _ => ite_eq_of (fun _ => rfl) (fun hc => absurd (by omega) hc))))) (fun hc => absurd (by omega) hc)), rfl, fun x hx => rfl, fun x hx => rfl, fun x hx => rfl⟩
              · obtain rfl : b = 9 := i_is hs8 (by decide)
                refine w_if_lt rfl (fun h => absurd h (by decide)) (fun _ => ?_)
                refine w_pushI rfl ?_
                refine w_goto rfl ?_
                refine w_iret rfl (Or.inr ⟨rfl, by decide⟩) ?_
                show gW _ _ _ _ _ _ _ _ _ _
                refine w_if_eq rfl (fun h => absurd h (by decide)) (fun _ => ?_)
                refine w_aload rfl rfl ?_
                refine w_getR (r := 8) rfl rfl (hR _ fmR_0_1) ?_
                refine w_iload rfl rfl ?_
                refine w_topv (z := 0) (by decide) ?_
                refine w_iload rfl rfl ?_
                refine w_topv (z := 9) (by decide) ?_
                refine w_callVi (As := [_, _]) (le := [some _, some _, some _, none]) rfl rfl rfl (Nat.le_of_ble_eq_true rfl) (Nat.le_of_ble_eq_true rfl) rfl ?_
                refine w_aload rfl rfl ?_
                refine w_iload rfl rfl ?_
                refine w_iload rfl rfl ?_
                refine w_callVi (As := [_, _]) (le := [some _, some _, some _]) rfl rfl rfl (Nat.le_of_ble_eq_true rfl) (Nat.le_of_ble_eq_true rfl) rfl ?_
                refine w_iload rfl rfl ?_
                refine w_if_lt rfl (fun h => absurd h (by decide)) (fun _ => ?_)
                refine w_iload rfl rfl ?_
                refine w_pushI rfl ?_
                refine w_icmp_lt rfl (fun _ => ?_) (fun h => absurd (by decide) h)
                refine w_iload rfl rfl ?_
                refine w_pushI rfl ?_
                refine w_icmp_ge rfl (fun _ => ?_) (fun h => absurd (by decide) h)
                refine w_iload rfl rfl ?_
                refine w_if_ne rfl (fun h => absurd (by decide) h) (fun _ => ?_)
                refine w_pushI rfl ?_
                refine w_iload rfl rfl ?_
                refine w_iaddv (z := 49) rfl (by decide) ?_
                refine w_goto rfl ?_
                refine w_iret rfl (Or.inl rfl) ?_
                show gW _ _ _ _ _ _ _ _ _ _
                refine w_istore rfl rfl ?_
                refine w_iload rfl rfl ?_
                refine w_if_ge rfl (fun _ => ?_) (fun h => absurd (by decide) h)
                refine w_aload rfl rfl ?_
                refine w_getR (r := 9) rfl rfl (hR _ fmR_8_1) ?_
                refine w_iload rfl rfl ?_
                refine w_ialdv (j := 49) (x := 90) rfl rfl (by decide) (by unfold vp_in; decide) (hI _ fmI_9_49) ?_
                refine w_iret rfl (Or.inl rfl) ?_
                show gW _ _ _ _ _ _ _ _ _ _
                refine w_goto rfl ?_
                refine w_iret rfl (Or.inl rfl) ?_
                exact ⟨congrArg (fun v => some (Value.int v)) (show (90 : Int32) = f1_of (0) (9) by have e0 : (0 : Int32).toInt = 0 := rfl; have e1 : (9 : Int32).toInt = 9 := rfl; exact ite_eq_of (fun _ => ite_eq_of (fun hc => absurd hc (by omega)) (fun _ => ite_eq_of (fun hc => absurd hc (by omega)) (fun _ => ite_eq_of (fun hc => absurd hc (by omega)) (fun _ => ite_eq_of (fun hc => absurd hc (by omega)) (fun _ => ite_eq_of (fun _ => rfl) (fun hc => absurd (by omega) hc)))))) (fun hc => absurd (by omega) hc)), rfl, fun x hx => rfl, fun x hx => rfl, fun x hx => rfl⟩
              · obtain rfl : b = 10 := i_is hs8 (by decide)
                refine w_if_lt rfl (fun h => absurd h (by decide)) (fun _ => ?_)
                refine w_pushI rfl ?_
                refine w_goto rfl ?_
                refine w_iret rfl (Or.inr ⟨rfl, by decide⟩) ?_
                show gW _ _ _ _ _ _ _ _ _ _
                refine w_if_eq rfl (fun h => absurd h (by decide)) (fun _ => ?_)
                refine w_aload rfl rfl ?_
                refine w_getR (r := 8) rfl rfl (hR _ fmR_0_1) ?_
                refine w_iload rfl rfl ?_
                refine w_topv (z := 0) (by decide) ?_
                refine w_iload rfl rfl ?_
                refine w_topv (z := 10) (by decide) ?_
                refine w_callVi (As := [_, _]) (le := [some _, some _, some _, none]) rfl rfl rfl (Nat.le_of_ble_eq_true rfl) (Nat.le_of_ble_eq_true rfl) rfl ?_
                refine w_aload rfl rfl ?_
                refine w_iload rfl rfl ?_
                refine w_iload rfl rfl ?_
                refine w_callVi (As := [_, _]) (le := [some _, some _, some _]) rfl rfl rfl (Nat.le_of_ble_eq_true rfl) (Nat.le_of_ble_eq_true rfl) rfl ?_
                refine w_iload rfl rfl ?_
                refine w_if_lt rfl (fun h => absurd h (by decide)) (fun _ => ?_)
                refine w_iload rfl rfl ?_
                refine w_pushI rfl ?_
                refine w_icmp_lt rfl (fun _ => ?_) (fun h => absurd (by decide) h)
                refine w_iload rfl rfl ?_
                refine w_pushI rfl ?_
                refine w_icmp_ge rfl (fun _ => ?_) (fun h => absurd (by decide) h)
                refine w_iload rfl rfl ?_
                refine w_if_ne rfl (fun h => absurd (by decide) h) (fun _ => ?_)
                refine w_pushI rfl ?_
                refine w_iload rfl rfl ?_
                refine w_iaddv (z := 50) rfl (by decide) ?_
                refine w_goto rfl ?_
                refine w_iret rfl (Or.inl rfl) ?_
                show gW _ _ _ _ _ _ _ _ _ _
                refine w_istore rfl rfl ?_
                refine w_iload rfl rfl ?_
                refine w_if_ge rfl (fun _ => ?_) (fun h => absurd (by decide) h)
                refine w_aload rfl rfl ?_
                refine w_getR (r := 9) rfl rfl (hR _ fmR_8_1) ?_
                refine w_iload rfl rfl ?_
                refine w_ialdv (j := 50) (x := 3) rfl rfl (by decide) (by unfold vp_in; decide) (hI _ fmI_9_50) ?_
                refine w_iret rfl (Or.inl rfl) ?_
                show gW _ _ _ _ _ _ _ _ _ _
                refine w_goto rfl ?_
                refine w_iret rfl (Or.inl rfl) ?_
                exact ⟨congrArg (fun v => some (Value.int v)) (show (3 : Int32) = f1_of (0) (10) by have e0 : (0 : Int32).toInt = 0 := rfl; have e1 : (10 : Int32).toInt = 10 := rfl; exact ite_eq_of (fun _ => ite_eq_of (fun hc => absurd hc (by omega)) (fun _ => ite_eq_of (fun hc => absurd hc (by omega)) (fun _ => ite_eq_of (fun hc => absurd hc (by omega)) (fun _ => ite_eq_of (fun hc => absurd hc (by omega)) (fun _ => ite_eq_of (fun hc => absurd hc (by omega)) (fun _ => ite_eq_of (fun _ => rfl) (fun hc => absurd (by omega) hc))))))) (fun hc => absurd (by omega) hc)), rfl, fun x hx => rfl, fun x hx => rfl, fun x hx => rfl⟩
              · obtain rfl : b = 11 := i_is hs8 (by decide)
                refine w_if_lt rfl (fun h => absurd h (by decide)) (fun _ => ?_)
                refine w_pushI rfl ?_
                refine w_goto rfl ?_
                refine w_iret rfl (Or.inr ⟨rfl, by decide⟩) ?_
                show gW _ _ _ _ _ _ _ _ _ _
                refine w_if_eq rfl (fun h => absurd h (by decide)) (fun _ => ?_)
                refine w_aload rfl rfl ?_
                refine w_getR (r := 8) rfl rfl (hR _ fmR_0_1) ?_
                refine w_iload rfl rfl ?_
                refine w_topv (z := 0) (by decide) ?_
                refine w_iload rfl rfl ?_
                refine w_topv (z := 11) (by decide) ?_
                refine w_callVi (As := [_, _]) (le := [some _, some _, some _, none]) rfl rfl rfl (Nat.le_of_ble_eq_true rfl) (Nat.le_of_ble_eq_true rfl) rfl ?_
                refine w_aload rfl rfl ?_
                refine w_iload rfl rfl ?_
                refine w_iload rfl rfl ?_
                refine w_callVi (As := [_, _]) (le := [some _, some _, some _]) rfl rfl rfl (Nat.le_of_ble_eq_true rfl) (Nat.le_of_ble_eq_true rfl) rfl ?_
                refine w_iload rfl rfl ?_
                refine w_if_lt rfl (fun h => absurd h (by decide)) (fun _ => ?_)
                refine w_iload rfl rfl ?_
                refine w_pushI rfl ?_
                refine w_icmp_lt rfl (fun _ => ?_) (fun h => absurd (by decide) h)
                refine w_iload rfl rfl ?_
                refine w_pushI rfl ?_
                refine w_icmp_ge rfl (fun _ => ?_) (fun h => absurd (by decide) h)
                refine w_iload rfl rfl ?_
                refine w_if_ne rfl (fun h => absurd (by decide) h) (fun _ => ?_)
                refine w_pushI rfl ?_
                refine w_iload rfl rfl ?_
                refine w_iaddv (z := 51) rfl (by decide) ?_
                refine w_goto rfl ?_
                refine w_iret rfl (Or.inl rfl) ?_
                show gW _ _ _ _ _ _ _ _ _ _
                refine w_istore rfl rfl ?_
                refine w_iload rfl rfl ?_
                refine w_if_ge rfl (fun _ => ?_) (fun h => absurd (by decide) h)
                refine w_aload rfl rfl ?_
                refine w_getR (r := 9) rfl rfl (hR _ fmR_8_1) ?_
                refine w_iload rfl rfl ?_
                refine w_ialdv (j := 51) (x := 20) rfl rfl (by decide) (by unfold vp_in; decide) (hI _ fmI_9_51) ?_
                refine w_iret rfl (Or.inl rfl) ?_
                show gW _ _ _ _ _ _ _ _ _ _
                refine w_goto rfl ?_
                refine w_iret rfl (Or.inl rfl) ?_
                exact ⟨congrArg (fun v => some (Value.int v)) (show (20 : Int32) = f1_of (0) (11) by have e0 : (0 : Int32).toInt = 0 := rfl; have e1 : (11 : Int32).toInt = 11 := rfl; exact ite_eq_of (fun _ => ite_eq_of (fun hc => absurd hc (by omega)) (fun _ => ite_eq_of (fun hc => absurd hc (by omega)) (fun _ => ite_eq_of (fun hc => absurd hc (by omega)) (fun _ => ite_eq_of (fun hc => absurd hc (by omega)) (fun _ => ite_eq_of (fun hc => absurd hc (by omega)) (fun _ => ite_eq_of (fun hc => absurd hc (by omega)) (fun _ => ite_eq_of (fun _ => rfl) (fun hc => absurd (by omega) hc)))))))) (fun hc => absurd (by omega) hc)), rfl, fun x hx => rfl, fun x hx => rfl, fun x hx => rfl⟩
              · obtain rfl : b = 12 := i_is hs8 (by decide)
                refine w_if_lt rfl (fun h => absurd h (by decide)) (fun _ => ?_)
                refine w_pushI rfl ?_
                refine w_goto rfl ?_
                refine w_iret rfl (Or.inr ⟨rfl, by decide⟩) ?_
                show gW _ _ _ _ _ _ _ _ _ _
                refine w_if_eq rfl (fun h => absurd h (by decide)) (fun _ => ?_)
                refine w_aload rfl rfl ?_
                refine w_getR (r := 8) rfl rfl (hR _ fmR_0_1) ?_
                refine w_iload rfl rfl ?_
                refine w_topv (z := 0) (by decide) ?_
                refine w_iload rfl rfl ?_
                refine w_topv (z := 12) (by decide) ?_
                refine w_callVi (As := [_, _]) (le := [some _, some _, some _, none]) rfl rfl rfl (Nat.le_of_ble_eq_true rfl) (Nat.le_of_ble_eq_true rfl) rfl ?_
                refine w_aload rfl rfl ?_
                refine w_iload rfl rfl ?_
                refine w_iload rfl rfl ?_
                refine w_callVi (As := [_, _]) (le := [some _, some _, some _]) rfl rfl rfl (Nat.le_of_ble_eq_true rfl) (Nat.le_of_ble_eq_true rfl) rfl ?_
                refine w_iload rfl rfl ?_
                refine w_if_lt rfl (fun h => absurd h (by decide)) (fun _ => ?_)
                refine w_iload rfl rfl ?_
                refine w_pushI rfl ?_
                refine w_icmp_lt rfl (fun _ => ?_) (fun h => absurd (by decide) h)
                refine w_iload rfl rfl ?_
                refine w_pushI rfl ?_
                refine w_icmp_ge rfl (fun _ => ?_) (fun h => absurd (by decide) h)
                refine w_iload rfl rfl ?_
                refine w_if_ne rfl (fun h => absurd (by decide) h) (fun _ => ?_)
                refine w_pushI rfl ?_
                refine w_iload rfl rfl ?_
                refine w_iaddv (z := 52) rfl (by decide) ?_
                refine w_goto rfl ?_
                refine w_iret rfl (Or.inl rfl) ?_
                show gW _ _ _ _ _ _ _ _ _ _
                refine w_istore rfl rfl ?_
                refine w_iload rfl rfl ?_
                refine w_if_ge rfl (fun _ => ?_) (fun h => absurd (by decide) h)
                refine w_aload rfl rfl ?_
                refine w_getR (r := 9) rfl rfl (hR _ fmR_8_1) ?_
                refine w_iload rfl rfl ?_
                refine w_ialdv (j := 52) (x := 60) rfl rfl (by decide) (by unfold vp_in; decide) (hI _ fmI_9_52) ?_
                refine w_iret rfl (Or.inl rfl) ?_
                show gW _ _ _ _ _ _ _ _ _ _
                refine w_goto rfl ?_
                refine w_iret rfl (Or.inl rfl) ?_
                exact ⟨congrArg (fun v => some (Value.int v)) (show (60 : Int32) = f1_of (0) (12) by have e0 : (0 : Int32).toInt = 0 := rfl; have e1 : (12 : Int32).toInt = 12 := rfl; exact ite_eq_of (fun _ => ite_eq_of (fun hc => absurd hc (by omega)) (fun _ => ite_eq_of (fun hc => absurd hc (by omega)) (fun _ => ite_eq_of (fun hc => absurd hc (by omega)) (fun _ => ite_eq_of (fun hc => absurd hc (by omega)) (fun _ => ite_eq_of (fun hc => absurd hc (by omega)) (fun _ => ite_eq_of (fun hc => absurd hc (by omega)) (fun _ => ite_eq_of (fun hc => absurd hc (by omega)) (fun _ => ite_eq_of (fun _ => rfl) (fun hc => absurd (by omega) hc))))))))) (fun hc => absurd (by omega) hc)), rfl, fun x hx => rfl, fun x hx => rfl, fun x hx => rfl⟩
              · obtain rfl : b = 13 := i_is hs8 (by decide)
                refine w_if_lt rfl (fun h => absurd h (by decide)) (fun _ => ?_)
                refine w_pushI rfl ?_
                refine w_goto rfl ?_
                refine w_iret rfl (Or.inr ⟨rfl, by decide⟩) ?_
                show gW _ _ _ _ _ _ _ _ _ _
                refine w_if_eq rfl (fun h => absurd h (by decide)) (fun _ => ?_)
                refine w_aload rfl rfl ?_
                refine w_getR (r := 8) rfl rfl (hR _ fmR_0_1) ?_
                refine w_iload rfl rfl ?_
                refine w_topv (z := 0) (by decide) ?_
                refine w_iload rfl rfl ?_
                refine w_topv (z := 13) (by decide) ?_
                refine w_callVi (As := [_, _]) (le := [some _, some _, some _, none]) rfl rfl rfl (Nat.le_of_ble_eq_true rfl) (Nat.le_of_ble_eq_true rfl) rfl ?_
                refine w_aload rfl rfl ?_
                refine w_iload rfl rfl ?_
                refine w_iload rfl rfl ?_
                refine w_callVi (As := [_, _]) (le := [some _, some _, some _]) rfl rfl rfl (Nat.le_of_ble_eq_true rfl) (Nat.le_of_ble_eq_true rfl) rfl ?_
                refine w_iload rfl rfl ?_
                refine w_if_lt rfl (fun h => absurd h (by decide)) (fun _ => ?_)
                refine w_iload rfl rfl ?_
                refine w_pushI rfl ?_
                refine w_icmp_lt rfl (fun _ => ?_) (fun h => absurd (by decide) h)
                refine w_iload rfl rfl ?_
                refine w_pushI rfl ?_
                refine w_icmp_ge rfl (fun _ => ?_) (fun h => absurd (by decide) h)
                refine w_iload rfl rfl ?_
                refine w_if_ne rfl (fun h => absurd (by decide) h) (fun _ => ?_)
                refine w_pushI rfl ?_
                refine w_iload rfl rfl ?_
                refine w_iaddv (z := 53) rfl (by decide) ?_
                refine w_goto rfl ?_
                refine w_iret rfl (Or.inl rfl) ?_
                show gW _ _ _ _ _ _ _ _ _ _
                refine w_istore rfl rfl ?_
                refine w_iload rfl rfl ?_
                refine w_if_ge rfl (fun _ => ?_) (fun h => absurd (by decide) h)
                refine w_aload rfl rfl ?_
                refine w_getR (r := 9) rfl rfl (hR _ fmR_8_1) ?_
                refine w_iload rfl rfl ?_
                refine w_ialdv (j := 53) (x := 20) rfl rfl (by decide) (by unfold vp_in; decide) (hI _ fmI_9_53) ?_
                refine w_iret rfl (Or.inl rfl) ?_
                show gW _ _ _ _ _ _ _ _ _ _
                refine w_goto rfl ?_
                refine w_iret rfl (Or.inl rfl) ?_
                exact ⟨congrArg (fun v => some (Value.int v)) (show (20 : Int32) = f1_of (0) (13) by have e0 : (0 : Int32).toInt = 0 := rfl; have e1 : (13 : Int32).toInt = 13 := rfl; exact ite_eq_of (fun _ => ite_eq_of (fun hc => absurd hc (by omega)) (fun _ => ite_eq_of (fun hc => absurd hc (by omega)) (fun _ => ite_eq_of (fun hc => absurd hc (by omega)) (fun _ => ite_eq_of (fun hc => absurd hc (by omega)) (fun _ => ite_eq_of (fun hc => absurd hc (by omega)) (fun _ => ite_eq_of (fun hc => absurd hc (by omega)) (fun _ => ite_eq_of (fun hc => absurd hc (by omega)) (fun _ => ite_eq_of (fun hc => absurd hc (by omega)) (fun _ => ite_eq_of (fun _ => rfl) (fun hc => absurd (by omega) hc)))))))))) (fun hc => absurd (by omega) hc)), rfl, fun x hx => rfl, fun x hx => rfl, fun x hx => rfl⟩
          · refine w_aload rfl rfl ?_
            refine w_iload rfl rfl ?_
            refine w_callVi (As := [_]) (le := [some _, some _]) rfl rfl rfl (Nat.le_of_ble_eq_true rfl) (Nat.le_of_ble_eq_true rfl) rfl ?_
            refine w_iload rfl rfl ?_
            refine w_if_ltZ rfl rfl (fun h6 => ?_) (fun h6 => ?_)
            · refine w_pushI rfl ?_
              refine w_iret rfl (Or.inr ⟨rfl, by decide⟩) ?_
              show gW _ _ _ _ _ _ _ _ _ _
              refine w_if_eq rfl (fun _ => ?_) (fun h => absurd (by decide) h)
              refine w_pushI rfl ?_
              refine w_iret rfl (Or.inl rfl) ?_
              show gW _ _ _ _ _ _ _ _ _ _
              refine w_if_lt rfl (fun _ => ?_) (fun h => absurd (by decide) h)
              refine w_pushI rfl ?_
              refine w_iret rfl (Or.inr ⟨rfl, by decide⟩) ?_
              show gW _ _ _ _ _ _ _ _ _ _
              refine w_if_eq rfl (fun _ => ?_) (fun h => absurd (by decide) h)
              refine w_pushI rfl ?_
              refine w_iret rfl (Or.inl rfl) ?_
              exact ⟨congrArg (fun v => some (Value.int v)) (show ((-1) : Int32) = f1_of a b by exact ite_eq_of (fun hc => absurd hc (by omega)) (fun _ => rfl)), rfl, fun x hx => rfl, fun x hx => rfl, fun x hx => rfl⟩
            · refine w_iload rfl rfl ?_
              refine w_aload rfl rfl ?_
              refine w_getIv (x := 0) rfl rfl (hI _ fmI_8_2) ?_
              refine w_icmp_geZ (b := 0) rfl rfl (by decide) (fun h7 => ?_) (fun h7 => by exfalso; omega)
              refine w_pushI rfl ?_
              refine w_iret rfl (Or.inr ⟨rfl, by decide⟩) ?_
              show gW _ _ _ _ _ _ _ _ _ _
              refine w_if_eq rfl (fun _ => ?_) (fun h => absurd (by decide) h)
              refine w_pushI rfl ?_
              refine w_iret rfl (Or.inl rfl) ?_
              show gW _ _ _ _ _ _ _ _ _ _
              refine w_if_lt rfl (fun _ => ?_) (fun h => absurd (by decide) h)
              refine w_pushI rfl ?_
              refine w_iret rfl (Or.inr ⟨rfl, by decide⟩) ?_
              show gW _ _ _ _ _ _ _ _ _ _
              refine w_if_eq rfl (fun _ => ?_) (fun h => absurd (by decide) h)
              refine w_pushI rfl ?_
              refine w_iret rfl (Or.inl rfl) ?_
              exact ⟨congrArg (fun v => some (Value.int v)) (show ((-1) : Int32) = f1_of a b by exact ite_eq_of (fun hc => ite_eq_of (fun hc => absurd hc (by omega)) (fun _ => ite_eq_of (fun hc => absurd hc (by omega)) (fun _ => ite_eq_of (fun hc => absurd hc (by omega)) (fun _ => ite_eq_of (fun hc => absurd hc (by omega)) (fun _ => ite_eq_of (fun hc => absurd hc (by omega)) (fun _ => ite_eq_of (fun hc => absurd hc (by omega)) (fun _ => ite_eq_of (fun hc => absurd hc (by omega)) (fun _ => ite_eq_of (fun hc => absurd hc (by omega)) (fun _ => ite_eq_of (fun hc => absurd hc (by omega)) (fun _ => rfl)))))))))) (fun hc => rfl)), rfl, fun x hx => rfl, fun x hx => rfl, fun x hx => rfl⟩
        · refine w_pushI rfl ?_
          refine w_iret rfl (Or.inl rfl) ?_
          show gW _ _ _ _ _ _ _ _ _ _
          refine w_if_lt rfl (fun _ => ?_) (fun h => absurd (by decide) h)
          refine w_pushI rfl ?_
          refine w_iret rfl (Or.inr ⟨rfl, by decide⟩) ?_
          show gW _ _ _ _ _ _ _ _ _ _
          refine w_if_eq rfl (fun _ => ?_) (fun h => absurd (by decide) h)
          refine w_pushI rfl ?_
          refine w_iret rfl (Or.inl rfl) ?_
          exact ⟨congrArg (fun v => some (Value.int v)) (show ((-1) : Int32) = f1_of a b by exact ite_eq_of (fun hc => ite_eq_of (fun hc => absurd hc (by omega)) (fun _ => ite_eq_of (fun hc => absurd hc (by omega)) (fun _ => ite_eq_of (fun hc => absurd hc (by omega)) (fun _ => ite_eq_of (fun hc => absurd hc (by omega)) (fun _ => ite_eq_of (fun hc => absurd hc (by omega)) (fun _ => ite_eq_of (fun hc => absurd hc (by omega)) (fun _ => ite_eq_of (fun hc => absurd hc (by omega)) (fun _ => ite_eq_of (fun hc => absurd hc (by omega)) (fun _ => ite_eq_of (fun hc => absurd hc (by omega)) (fun _ => rfl)))))))))) (fun hc => rfl)), rfl, fun x hx => rfl, fun x hx => rfl, fun x hx => rfl⟩
    · obtain rfl : b = 15 := i_is (show b.toInt = 15 by omega) (by decide)
      refine w_aload rfl rfl ?_
      refine w_getR (r := 8) rfl rfl (hR _ fmR_0_1) ?_
      refine w_iload rfl rfl ?_
      refine w_callVi (As := [_]) (le := [some _, some _]) rfl rfl rfl (Nat.le_of_ble_eq_true rfl) (Nat.le_of_ble_eq_true rfl) rfl ?_
      refine w_iload rfl rfl ?_
      refine w_if_ltZ rfl rfl (fun h4 => ?_) (fun h4 => ?_)
      · refine w_pushI rfl ?_
        refine w_iret rfl (Or.inr ⟨rfl, by decide⟩) ?_
        show gW _ _ _ _ _ _ _ _ _ _
        refine w_if_ne rfl (fun h => absurd (by decide) h) (fun _ => ?_)
        refine w_pushI rfl ?_
        refine w_iret rfl (Or.inl rfl) ?_
        exact ⟨congrArg (fun v => some (Value.int v)) (show ((-1) : Int32) = f1_of a (15) by have e0 : (15 : Int32).toInt = 15 := rfl; exact ite_eq_of (fun hc => absurd hc (by omega)) (fun _ => rfl)), rfl, fun x hx => rfl, fun x hx => rfl, fun x hx => rfl⟩
      · refine w_iload rfl rfl ?_
        refine w_aload rfl rfl ?_
        refine w_getIv (x := 0) rfl rfl (hI _ fmI_8_2) ?_
        refine w_icmp_geZ (b := 0) rfl rfl (by decide) (fun h5 => ?_) (fun h5 => by exfalso; omega)
        refine w_pushI rfl ?_
        refine w_iret rfl (Or.inr ⟨rfl, by decide⟩) ?_
        show gW _ _ _ _ _ _ _ _ _ _
        refine w_if_ne rfl (fun h => absurd (by decide) h) (fun _ => ?_)
        refine w_pushI rfl ?_
        refine w_iret rfl (Or.inl rfl) ?_
        exact ⟨congrArg (fun v => some (Value.int v)) (show ((-1) : Int32) = f1_of a (15) by have e0 : (15 : Int32).toInt = 15 := rfl; exact ite_eq_of (fun hc => ite_eq_of (fun hc => absurd hc (by omega)) (fun _ => ite_eq_of (fun hc => absurd hc (by omega)) (fun _ => ite_eq_of (fun hc => absurd hc (by omega)) (fun _ => ite_eq_of (fun hc => absurd hc (by omega)) (fun _ => ite_eq_of (fun hc => absurd hc (by omega)) (fun _ => ite_eq_of (fun hc => absurd hc (by omega)) (fun _ => ite_eq_of (fun hc => absurd hc (by omega)) (fun _ => ite_eq_of (fun hc => absurd hc (by omega)) (fun _ => ite_eq_of (fun hc => absurd hc (by omega)) (fun _ => rfl)))))))))) (fun hc => rfl)), rfl, fun x hx => rfl, fun x hx => rfl, fun x hx => rfl⟩
