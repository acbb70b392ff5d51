theorem told_5 {X : Nat × (Nat → Int32)} {d : Nat} {I : Nat → Nat → Int32} {L : Nat → Nat → Int64} {R : Nat → Nat → Option Nat} (hR : ∀ q ∈ gFlR, R q.1 q.2.1 = some q.2.2) : gW X (d + 3) 90 0 0 0 (gEn 90 [.ref 8, .int 0, .int 5]) [] (gK 87, I, L, R) (fun r σ => r = some (.int (I 9 45)) ∧ σ = (gK 87, I, L, R)) := by
  show gW _ _ _ _ _ _ [some (.ref 8), some (.int 0), some (.int 5), none] _ _ _
  refine w_aload rfl rfl ?_
  refine w_iload rfl rfl ?_
  refine w_iload rfl rfl ?_
  refine w_callVi (As := [_, _]) (le := [some _, some _, some _]) rfl rfl rfl (Nat.le_of_ble_eq_true rfl) (Nat.le_of_ble_eq_true rfl) rfl ?_
  refine w_iload rfl rfl ?_
  refine w_if_lt rfl (fun h => absurd h (by decide)) (fun _ => ?_)
  refine w_iload rfl rfl ?_
  refine w_pushI rfl ?_
  refine w_icmp_lt rfl (fun _ => ?_) (fun h => absurd (by decide) h)
  refine w_iload rfl rfl ?_
  refine w_pushI rfl ?_
  refine w_icmp_ge rfl (fun _ => ?_) (fun h => absurd (by decide) h)
  refine w_iload rfl rfl ?_
  refine w_if_ne rfl (fun h => absurd (by decide) h) (fun _ => ?_)
  refine w_pushI rfl ?_
  refine w_iload rfl rfl ?_
  refine w_iaddv (z := 45) rfl (by decide) ?_
  refine w_goto rfl ?_
  refine w_iret rfl (Or.inl rfl) ?_
  show gW _ _ _ _ _ _ _ _ _ _
  refine w_istore rfl rfl ?_
  refine w_iload rfl rfl ?_
  refine w_if_ge rfl (fun _ => ?_) (fun h => absurd (by decide) h)
  refine w_aload rfl rfl ?_
  refine w_getR (r := 9) rfl rfl (hR _ fmR_8_1) ?_
  refine w_iload rfl rfl ?_
  refine w_ialdv (j := 45) rfl rfl (by decide) (by unfold vp_in; decide) (rfl) ?_
  refine w_iret rfl (Or.inl rfl) ?_
  exact ⟨rfl, rfl⟩
theorem told_6 {X : Nat × (Nat → Int32)} {d : Nat} {I : Nat → Nat → Int32} {L : Nat → Nat → Int64} {R : Nat → Nat → Option Nat} (hR : ∀ q ∈ gFlR, R q.1 q.2.1 = some q.2.2) : gW X (d + 3) 90 0 0 0 (gEn 90 [.ref 8, .int 0, .int 6]) [] (gK 87, I, L, R) (fun r σ => r = some (.int (I 9 46)) ∧ σ = (gK 87, I, L, R)) := by
  show gW _ _ _ _ _ _ [some (.ref 8), some (.int 0), some (.int 6), none] _ _ _
  refine w_aload rfl rfl ?_
  refine w_iload rfl rfl ?_
  refine w_iload rfl rfl ?_
  refine w_callVi (As := [_, _]) (le := [some _, some _, some _]) rfl rfl rfl (Nat.le_of_ble_eq_true rfl) (Nat.le_of_ble_eq_true rfl) rfl ?_
  refine w_iload rfl rfl ?_
  refine w_if_lt rfl (fun h => absurd h (by decide)) (fun _ => ?_)
  refine w_iload rfl rfl ?_
  refine w_pushI rfl ?_
  refine w_icmp_lt rfl (fun _ => ?_) (fun h => absurd (by decide) h)
  refine w_iload rfl rfl ?_
  refine w_pushI rfl ?_
  refine w_icmp_ge rfl (fun _ => ?_) (fun h => absurd (by decide) h)
  refine w_iload rfl rfl ?_
  refine w_if_ne rfl (fun h => absurd (by decide) h) (fun _ => ?_)
  refine w_pushI rfl ?_
  refine w_iload rfl rfl ?_
  refine w_iaddv (z := 46) rfl (by decide) ?_
  refine w_goto rfl ?_
  refine w_iret rfl (Or.inl rfl) ?_
  show gW _ _ _ _ _ _ _ _ _ _
  refine w_istore rfl rfl ?_
  refine w_iload rfl rfl ?_
  refine w_if_ge rfl (fun _ => ?_) (fun h => absurd (by decide) h)
  refine w_aload rfl rfl ?_
  refine w_getR (r := 9) rfl rfl (hR _ fmR_8_1) ?_
  refine w_iload rfl rfl ?_
  refine w_ialdv (j := 46) rfl rfl (by decide) (by unfold vp_in; decide) (rfl) ?_
  refine w_iret rfl (Or.inl rfl) ?_
  exact ⟨rfl, rfl⟩
theorem told_7 {X : Nat × (Nat → Int32)} {d : Nat} {I : Nat → Nat → Int32} {L : Nat → Nat → Int64} {R : Nat → Nat → Option Nat} (hR : ∀ q ∈ gFlR, R q.1 q.2.1 = some q.2.2) : gW X (d + 3) 90 0 0 0 (gEn 90 [.ref 8, .int 0, .int 7]) [] (gK 87, I, L, R) (fun r σ => r = some (.int (I 9 47)) ∧ σ = (gK 87, I, L, R)) := by
  show gW _ _ _ _ _ _ [some (.ref 8), some (.int 0), some (.int 7), none] _ _ _
  refine w_aload rfl rfl ?_
  refine w_iload rfl rfl ?_
  refine w_iload rfl rfl ?_
  refine w_callVi (As := [_, _]) (le := [some _, some _, some _]) rfl rfl rfl (Nat.le_of_ble_eq_true rfl) (Nat.le_of_ble_eq_true rfl) rfl ?_
  refine w_iload rfl rfl ?_
  refine w_if_lt rfl (fun h => absurd h (by decide)) (fun _ => ?_)
  refine w_iload rfl rfl ?_
  refine w_pushI rfl ?_
  refine w_icmp_lt rfl (fun _ => ?_) (fun h => absurd (by decide) h)
  refine w_iload rfl rfl ?_
  refine w_pushI rfl ?_
  refine w_icmp_ge rfl (fun _ => ?_) (fun h => absurd (by decide) h)
  refine w_iload rfl rfl ?_
  refine w_if_ne rfl (fun h => absurd (by decide) h) (fun _ => ?_)
  refine w_pushI rfl ?_
  refine w_iload rfl rfl ?_
  refine w_iaddv (z := 47) rfl (by decide) ?_
  refine w_goto rfl ?_
  refine w_iret rfl (Or.inl rfl) ?_
  show gW _ _ _ _ _ _ _ _ _ _
  refine w_istore rfl rfl ?_
  refine w_iload rfl rfl ?_
  refine w_if_ge rfl (fun _ => ?_) (fun h => absurd (by decide) h)
  refine w_aload rfl rfl ?_
  refine w_getR (r := 9) rfl rfl (hR _ fmR_8_1) ?_
  refine w_iload rfl rfl ?_
  refine w_ialdv (j := 47) rfl rfl (by decide) (by unfold vp_in; decide) (rfl) ?_
  refine w_iret rfl (Or.inl rfl) ?_
  exact ⟨rfl, rfl⟩
theorem told_8 {X : Nat × (Nat → Int32)} {d : Nat} {I : Nat → Nat → Int32} {L : Nat → Nat → Int64} {R : Nat → Nat → Option Nat} (hR : ∀ q ∈ gFlR, R q.1 q.2.1 = some q.2.2) : gW X (d + 3) 90 0 0 0 (gEn 90 [.ref 8, .int 0, .int 8]) [] (gK 87, I, L, R) (fun r σ => r = some (.int (I 9 48)) ∧ σ = (gK 87, I, L, R)) := by
  show gW _ _ _ _ _ _ [some (.ref 8), some (.int 0), some (.int 8), none] _ _ _
  refine w_aload rfl rfl ?_
  refine w_iload rfl rfl ?_
  refine w_iload rfl rfl ?_
  refine w_callVi (As := [_, _]) (le := [some _, some _, some _]) rfl rfl rfl (Nat.le_of_ble_eq_true rfl) (Nat.le_of_ble_eq_true rfl) rfl ?_
  refine w_iload rfl rfl ?_
  refine w_if_lt rfl (fun h => absurd h (by decide)) (fun _ => ?_)
  refine w_iload rfl rfl ?_
  refine w_pushI rfl ?_
  refine w_icmp_lt rfl (fun _ => ?_) (fun h => absurd (by decide) h)
  refine w_iload rfl rfl ?_
  refine w_pushI rfl ?_
  refine w_icmp_ge rfl (fun _ => ?_) (fun h => absurd (by decide) h)
  refine w_iload rfl rfl ?_
  refine w_if_ne rfl (fun h => absurd (by decide) h) (fun _ => ?_)
  refine w_pushI rfl ?_
  refine w_iload rfl rfl ?_
  refine w_iaddv (z := 48) rfl (by decide) ?_
  refine w_goto rfl ?_
  refine w_iret rfl (Or.inl rfl) ?_
  show gW _ _ _ _ _ _ _ _ _ _
  refine w_istore rfl rfl ?_
  refine w_iload rfl rfl ?_
  refine w_if_ge rfl (fun _ => ?_) (fun h => absurd (by decide) h)
  refine w_aload rfl rfl ?_
  refine w_getR (r := 9) rfl rfl (hR _ fmR_8_1) ?_
  refine w_iload rfl rfl ?_
  refine w_ialdv (j := 48) rfl rfl (by decide) (by unfold vp_in; decide) (rfl) ?_
  refine w_iret rfl (Or.inl rfl) ?_
  exact ⟨rfl, rfl⟩
theorem told_9 {X : Nat × (Nat → Int32)} {d : Nat} {I : Nat → Nat → Int32} {L : Nat → Nat → Int64} {R : Nat → Nat → Option Nat} (hR : ∀ q ∈ gFlR, R q.1 q.2.1 = some q.2.2) : gW X (d + 3) 90 0 0 0 (gEn 90 [.ref 8, .int 0, .int 9]) [] (gK 87, I, L, R) (fun r σ => r = some (.int (I 9 49)) ∧ σ = (gK 87, I, L, R)) := by
  show gW _ _ _ _ _ _ [some (.ref 8), some (.int 0), some (.int 9), none] _ _ _
  refine w_aload rfl rfl ?_
  refine w_iload rfl rfl ?_
  refine w_iload rfl rfl ?_
  refine w_callVi (As := [_, _]) (le := [some _, some _, some _]) rfl rfl rfl (Nat.le_of_ble_eq_true rfl) (Nat.le_of_ble_eq_true rfl) rfl ?_
  refine w_iload rfl rfl ?_
  refine w_if_lt rfl (fun h => absurd h (by decide)) (fun _ => ?_)
  refine w_iload rfl rfl ?_
  refine w_pushI rfl ?_
  refine w_icmp_lt rfl (fun _ => ?_) (fun h => absurd (by decide) h)
  refine w_iload rfl rfl ?_
  refine w_pushI rfl ?_
  refine w_icmp_ge rfl (fun _ => ?_) (fun h => absurd (by decide) h)
  refine w_iload rfl rfl ?_
  refine w_if_ne rfl (fun h => absurd (by decide) h) (fun _ => ?_)
  refine w_pushI rfl ?_
  refine w_iload rfl rfl ?_
  refine w_iaddv (z := 49) rfl (by decide) ?_
  refine w_goto rfl ?_
  refine w_iret rfl (Or.inl rfl) ?_
  show gW _ _ _ _ _ _ _ _ _ _
  refine w_istore rfl rfl ?_
  refine w_iload rfl rfl ?_
  refine w_if_ge rfl (fun _ => ?_) (fun h => absurd (by decide) h)
  refine w_aload rfl rfl ?_
  refine w_getR (r := 9) rfl rfl (hR _ fmR_8_1) ?_
  refine w_iload rfl rfl ?_
  refine w_ialdv (j := 49) rfl rfl (by decide) (by unfold vp_in; decide) (rfl) ?_
  refine w_iret rfl (Or.inl rfl) ?_
  exact ⟨rfl, rfl⟩
theorem told_10 {X : Nat × (Nat → Int32)} {d : Nat} {I : Nat → Nat → Int32} {L : Nat → Nat → Int64} {R : Nat → Nat → Option Nat} (hR : ∀ q ∈ gFlR, R q.1 q.2.1 = some q.2.2) : gW X (d + 3) 90 0 0 0 (gEn 90 [.ref 8, .int 0, .int 10]) [] (gK 87, I, L, R) (fun r σ => r = some (.int (I 9 50)) ∧ σ = (gK 87, I, L, R)) := by
  show gW _ _ _ _ _ _ [some (.ref 8), some (.int 0), some (.int 10), none] _ _ _
  refine w_aload rfl rfl ?_
  refine w_iload rfl rfl ?_
  refine w_iload rfl rfl ?_
  refine w_callVi (As := [_, _]) (le := [some _, some _, some _]) rfl rfl rfl (Nat.le_of_ble_eq_true rfl) (Nat.le_of_ble_eq_true rfl) rfl ?_
  refine w_iload rfl rfl ?_
  refine w_if_lt rfl (fun h => absurd h (by decide)) (fun _ => ?_)
  refine w_iload rfl rfl ?_
  refine w_pushI rfl ?_
  refine w_icmp_lt rfl (fun _ => ?_) (fun h => absurd (by decide) h)
  refine w_iload rfl rfl ?_
  refine w_pushI rfl ?_
  refine w_icmp_ge rfl (fun _ => ?_) (fun h => absurd (by decide) h)
  refine w_iload rfl rfl ?_
  refine w_if_ne rfl (fun h => absurd (by decide) h) (fun _ => ?_)
  refine w_pushI rfl ?_
  refine w_iload rfl rfl ?_
  refine w_iaddv (z := 50) rfl (by decide) ?_
  refine w_goto rfl ?_
  refine w_iret rfl (Or.inl rfl) ?_
  show gW _ _ _ _ _ _ _ _ _ _
  refine w_istore rfl rfl ?_
  refine w_iload rfl rfl ?_
  refine w_if_ge rfl (fun _ => ?_) (fun h => absurd (by decide) h)
  refine w_aload rfl rfl ?_
  refine w_getR (r := 9) rfl rfl (hR _ fmR_8_1) ?_
  refine w_iload rfl rfl ?_
  refine w_ialdv (j := 50) rfl rfl (by decide) (by unfold vp_in; decide) (rfl) ?_
  refine w_iret rfl (Or.inl rfl) ?_
  exact ⟨rfl, rfl⟩
theorem told_11 {X : Nat × (Nat → Int32)} {d : Nat} {I : Nat → Nat → Int32} {L : Nat → Nat → Int64} {R : Nat → Nat → Option Nat} (hR : ∀ q ∈ gFlR, R q.1 q.2.1 = some q.2.2) : gW X (d + 3) 90 0 0 0 (gEn 90 [.ref 8, .int 0, .int 11]) [] (gK 87, I, L, R) (fun r σ => r = some (.int (I 9 51)) ∧ σ = (gK 87, I, L, R)) := by
  show gW _ _ _ _ _ _ [some (.ref 8), some (.int 0), some (.int 11), none] _ _ _
  refine w_aload rfl rfl ?_
  refine w_iload rfl rfl ?_
  refine w_iload rfl rfl ?_
  refine w_callVi (As := [_, _]) (le := [some _, some _, some _]) rfl rfl rfl (Nat.le_of_ble_eq_true rfl) (Nat.le_of_ble_eq_true rfl) rfl ?_
  refine w_iload rfl rfl ?_
  refine w_if_lt rfl (fun h => absurd h (by decide)) (fun _ => ?_)
  refine w_iload rfl rfl ?_
  refine w_pushI rfl ?_
  refine w_icmp_lt rfl (fun _ => ?_) (fun h => absurd (by decide) h)
  refine w_iload rfl rfl ?_
  refine w_pushI rfl ?_
  refine w_icmp_ge rfl (fun _ => ?_) (fun h => absurd (by decide) h)
  refine w_iload rfl rfl ?_
  refine w_if_ne rfl (fun h => absurd (by decide) h) (fun _ => ?_)
  refine w_pushI rfl ?_
  refine w_iload rfl rfl ?_
  refine w_iaddv (z := 51) rfl (by decide) ?_
  refine w_goto rfl ?_
  refine w_iret rfl (Or.inl rfl) ?_
  show gW _ _ _ _ _ _ _ _ _ _
  refine w_istore rfl rfl ?_
  refine w_iload rfl rfl ?_
  refine w_if_ge rfl (fun _ => ?_) (fun h => absurd (by decide) h)
  refine w_aload rfl rfl ?_
  refine w_getR (r := 9) rfl rfl (hR _ fmR_8_1) ?_
  refine w_iload rfl rfl ?_
  refine w_ialdv (j := 51) rfl rfl (by decide) (by unfold vp_in; decide) (rfl) ?_
  refine w_iret rfl (Or.inl rfl) ?_
  exact ⟨rfl, rfl⟩
theorem told_12 {X : Nat × (Nat → Int32)} {d : Nat} {I : Nat → Nat → Int32} {L : Nat → Nat → Int64} {R : Nat → Nat → Option Nat} (hR : ∀ q ∈ gFlR, R q.1 q.2.1 = some q.2.2) : gW X (d + 3) 90 0 0 0 (gEn 90 [.ref 8, .int 0, .int 12]) [] (gK 87, I, L, R) (fun r σ => r = some (.int (I 9 52)) ∧ σ = (gK 87, I, L, R)) := by
  show gW _ _ _ _ _ _ [some (.ref 8), some (.int 0), some (.int 12), none] _ _ _
  refine w_aload rfl rfl ?_
  refine w_iload rfl rfl ?_
  refine w_iload rfl rfl ?_
  refine w_callVi (As := [_, _]) (le := [some _, some _, some _]) rfl rfl rfl (Nat.le_of_ble_eq_true rfl) (Nat.le_of_ble_eq_true rfl) rfl ?_
  refine w_iload rfl rfl ?_
  refine w_if_lt rfl (fun h => absurd h (by decide)) (fun _ => ?_)
  refine w_iload rfl rfl ?_
  refine w_pushI rfl ?_
  refine w_icmp_lt rfl (fun _ => ?_) (fun h => absurd (by decide) h)
  refine w_iload rfl rfl ?_
  refine w_pushI rfl ?_
  refine w_icmp_ge rfl (fun _ => ?_) (fun h => absurd (by decide) h)
  refine w_iload rfl rfl ?_
  refine w_if_ne rfl (fun h => absurd (by decide) h) (fun _ => ?_)
  refine w_pushI rfl ?_
  refine w_iload rfl rfl ?_
  refine w_iaddv (z := 52) rfl (by decide) ?_
  refine w_goto rfl ?_
  refine w_iret rfl (Or.inl rfl) ?_
  show gW _ _ _ _ _ _ _ _ _ _
  refine w_istore rfl rfl ?_
  refine w_iload rfl rfl ?_
  refine w_if_ge rfl (fun _ => ?_) (fun h => absurd (by decide) h)
  refine w_aload rfl rfl ?_
  refine w_getR (r := 9) rfl rfl (hR _ fmR_8_1) ?_
  refine w_iload rfl rfl ?_
  refine w_ialdv (j := 52) rfl rfl (by decide) (by unfold vp_in; decide) (rfl) ?_
  refine w_iret rfl (Or.inl rfl) ?_
  exact ⟨rfl, rfl⟩
theorem told_13 {X : Nat × (Nat → Int32)} {d : Nat} {I : Nat → Nat → Int32} {L : Nat → Nat → Int64} {R : Nat → Nat → Option Nat} (hR : ∀ q ∈ gFlR, R q.1 q.2.1 = some q.2.2) : gW X (d + 3) 90 0 0 0 (gEn 90 [.ref 8, .int 0, .int 13]) [] (gK 87, I, L, R) (fun r σ => r = some (.int (I 9 53)) ∧ σ = (gK 87, I, L, R)) := by
  show gW _ _ _ _ _ _ [some (.ref 8), some (.int 0), some (.int 13), none] _ _ _
  refine w_aload rfl rfl ?_
  refine w_iload rfl rfl ?_
  refine w_iload rfl rfl ?_
  refine w_callVi (As := [_, _]) (le := [some _, some _, some _]) rfl rfl rfl (Nat.le_of_ble_eq_true rfl) (Nat.le_of_ble_eq_true rfl) rfl ?_
  refine w_iload rfl rfl ?_
  refine w_if_lt rfl (fun h => absurd h (by decide)) (fun _ => ?_)
  refine w_iload rfl rfl ?_
  refine w_pushI rfl ?_
  refine w_icmp_lt rfl (fun _ => ?_) (fun h => absurd (by decide) h)
  refine w_iload rfl rfl ?_
  refine w_pushI rfl ?_
  refine w_icmp_ge rfl (fun _ => ?_) (fun h => absurd (by decide) h)
  refine w_iload rfl rfl ?_
  refine w_if_ne rfl (fun h => absurd (by decide) h) (fun _ => ?_)
  refine w_pushI rfl ?_
  refine w_iload rfl rfl ?_
  refine w_iaddv (z := 53) rfl (by decide) ?_
  refine w_goto rfl ?_
  refine w_iret rfl (Or.inl rfl) ?_
  show gW _ _ _ _ _ _ _ _ _ _
  refine w_istore rfl rfl ?_
  refine w_iload rfl rfl ?_
  refine w_if_ge rfl (fun _ => ?_) (fun h => absurd (by decide) h)
  refine w_aload rfl rfl ?_
  refine w_getR (r := 9) rfl rfl (hR _ fmR_8_1) ?_
  refine w_iload rfl rfl ?_
  refine w_ialdv (j := 53) rfl rfl (by decide) (by unfold vp_in; decide) (rfl) ?_
  refine w_iret rfl (Or.inl rfl) ?_
  exact ⟨rfl, rfl⟩
