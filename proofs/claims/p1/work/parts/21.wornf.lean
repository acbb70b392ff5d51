def f1_worn (a : Int32) : Int32 := if (0 ≤ a.toInt ∧ a.toInt ≤ 9999) then Int32.ofInt (wornZ 10000 a.toInt 60 20 0 0 0) else (-1)
set_option maxRecDepth 100000 in
theorem a2_worn {X : Nat × (Nat → Int32)} {d : Nat} {I : Nat → Nat → Int32} {L : Nat → Nat → Int64} {R : Nat → Nat → Option Nat} (hI : ∀ q ∈ gFlI, 50 ≤ q.1 → I q.1 q.2.1 = q.2.2) (hL : ∀ q ∈ gFlL, 50 ≤ q.1 → L q.1 q.2.1 = q.2.2) (hR : ∀ q ∈ gFlR, 50 ≤ q.1 → R q.1 q.2.1 = some q.2.2) (a : Int32) : gW X (d + 12) 217 0 0 0 (gEn 217 [.ref 50, .int a]) [] (gK 87, I, L, R) (fun r _ => r = some (.int (f1_worn a))) := by
  show gW _ _ _ _ _ _ [some (.ref 50), some (.int a), none, none, none, none, none] _ _ _
  refine w_iload rfl rfl ?_
  refine w_pushI rfl ?_
  refine w_pushI rfl ?_
  refine w_callSi (As := [_, _, _]) (le := [some _, some _, some _]) rfl rfl (Nat.le_of_ble_eq_true rfl) (Nat.le_of_ble_eq_true rfl) rfl ?_
  refine w_iload rfl rfl ?_
  refine w_iload rfl rfl ?_
  refine w_icmp_ltZ (b := 0) rfl rfl (by decide) (fun h1 => ?_) (fun h1 => ?_)
  · refine w_pushI rfl ?_
    refine w_iret rfl (Or.inr ⟨rfl, by decide⟩) ?_
    show gW _ _ _ _ _ _ _ _ _ _
    refine w_if_ne rfl (fun h => absurd (by decide) h) (fun _ => ?_)
    refine w_pushI rfl ?_
    refine w_iret rfl (Or.inl rfl) ?_
    exact congrArg (fun v => some (Value.int v)) (show ((-1) : Int32) = f1_worn a by exact ite_eq_of (fun hc => absurd hc (by omega)) (fun _ => rfl))
  · refine w_iload rfl rfl ?_
    refine w_iload rfl rfl ?_
    refine w_icmp_gtZ (b := 9999) rfl rfl (by decide) (fun h2 => ?_) (fun h2 => ?_)
    · refine w_pushI rfl ?_
      refine w_iret rfl (Or.inr ⟨rfl, by decide⟩) ?_
      show gW _ _ _ _ _ _ _ _ _ _
      refine w_if_ne rfl (fun h => absurd (by decide) h) (fun _ => ?_)
      refine w_pushI rfl ?_
      refine w_iret rfl (Or.inl rfl) ?_
      exact congrArg (fun v => some (Value.int v)) (show ((-1) : Int32) = f1_worn a by exact ite_eq_of (fun hc => absurd hc (by omega)) (fun _ => rfl))
    · refine w_pushI rfl ?_
      refine w_goto rfl ?_
      refine w_iret rfl (Or.inr ⟨rfl, by decide⟩) ?_
      show gW _ _ _ _ _ _ _ _ _ _
      refine w_if_ne rfl (fun _ => ?_) (fun h => absurd h (by decide))
      refine w_pushI rfl ?_
      refine w_istore rfl rfl ?_
      refine w_pushI rfl ?_
      refine w_istore rfl rfl ?_
      refine w_pushI rfl ?_
      refine w_istore rfl rfl ?_
      have e7 : (I 56 7).toInt = 60 := by rw [hI _ fmI_56_7 (by decide)]; rfl
      have e8 : (I 56 8).toInt = 20 := by rw [hI _ fmI_56_8 (by decide)]; rfl
      have z0 : (0 : Int32).toInt = 0 := rfl
      refine worn2 (n := a) (by omega) (by omega) (by omega) (by omega) (by omega) (hR _ fmR_50_7 (by decide)) 10000 0 0 0 _ _ (by omega) (by omega) (by omega) (by omega) (by omega) (by omega) (by omega) (fun v hv => ?_)
      rw [e7, e8, z0] at hv
      exact congrArg (fun v => some (Value.int v)) (show v = f1_worn a by
        unfold f1_worn
        rw [if_pos (by omega), ← hv, Int32.ofInt_toInt])
set_option maxRecDepth 100000 in
theorem a1_worn {X : Nat × (Nat → Int32)} {d : Nat} {I : Nat → Nat → Int32} {L : Nat → Nat → Int64} {R : Nat → Nat → Option Nat} (hI : ∀ q ∈ gFlI, I q.1 q.2.1 = q.2.2) (hL : ∀ q ∈ gFlL, L q.1 q.2.1 = q.2.2) (hR : ∀ q ∈ gFlR, R q.1 q.2.1 = some q.2.2) (a : Int32) : gW X (d + 12) 121 0 0 0 (gEn 121 [.ref 0, .int a]) [] (gK 87, I, L, R) (fun r σ => r = some (.int (f1_worn a)) ∧ gFr σ I L R) := by
  show gW _ _ _ _ _ _ [some (.ref 0), some (.int a), none, none, none, none, none, none, none] _ _ _
  refine w_iload rfl rfl ?_
  refine w_if_ltZ rfl rfl (fun h1 => ?_) (fun h1 => ?_)
  · refine w_pushI rfl ?_
    refine w_iret rfl (Or.inl rfl) ?_
    exact ⟨congrArg (fun v => some (Value.int v)) (show ((-1) : Int32) = f1_worn a by exact ite_eq_of (fun hc => absurd hc (by omega)) (fun _ => rfl)), rfl, fun x hx => rfl, fun x hx => rfl, fun x hx => rfl⟩
  · refine w_iload rfl rfl ?_
    refine w_pushI rfl ?_
    refine w_icmp_leZ (b := 9999) rfl rfl (by decide) (fun h2 => ?_) (fun h2 => ?_)
    · refine w_aload rfl rfl ?_
      refine w_getR (r := 8) rfl rfl (hR _ fmR_0_1) ?_
      refine w_pushI rfl ?_
      refine w_pushI rfl ?_
      refine w_callV (As := [_, _]) _ rfl rfl rfl (Nat.le_of_ble_eq_true rfl) (Nat.le_of_ble_eq_true rfl) (told_12 hR) (fun r K2 I2 L2 R2 hr => ?_)
      obtain ⟨rfl, hs⟩ := hr
      cases hs
      refine w_istore rfl rfl ?_
      refine w_aload rfl rfl ?_
      refine w_getR (r := 8) rfl rfl (hR _ fmR_0_1) ?_
      refine w_pushI rfl ?_
      refine w_pushI rfl ?_
      refine w_callV (As := [_, _]) _ rfl rfl rfl (Nat.le_of_ble_eq_true rfl) (Nat.le_of_ble_eq_true rfl) (told_13 hR) (fun r K2 I2 L2 R2 hr => ?_)
      obtain ⟨rfl, hs⟩ := hr
      cases hs
      refine w_istore rfl rfl ?_
      refine w_pushI rfl ?_
      refine w_istore rfl rfl ?_
      refine w_pushI rfl ?_
      refine w_istore rfl rfl ?_
      refine w_pushI rfl ?_
      refine w_istore rfl rfl ?_
      refine w_pushI rfl ?_
      refine w_istore rfl rfl ?_
      have e7 : (I 9 52).toInt = 60 := by rw [hI _ fmI_9_52]; rfl
      have e8 : (I 9 53).toInt = 20 := by rw [hI _ fmI_9_53]; rfl
      have z0 : (0 : Int32).toInt = 0 := rfl
      refine worn1 (n := a) (w := I 9 52) (f := I 9 53) (by omega) (by omega) (by omega) (by omega) (by omega) 10000 0 0 0 0 _ (by omega) (by omega) (by omega) (by omega) (by omega) (by omega) (by omega) (by omega) (by omega) (fun v hv => ?_)
      rw [e7, e8, z0] at hv
      exact ⟨congrArg (fun v => some (Value.int v)) (show v = f1_worn a by
        unfold f1_worn
        rw [if_pos (by omega), ← hv, Int32.ofInt_toInt]), rfl, fun x hx => rfl, fun x hx => rfl, fun x hx => rfl⟩
    · refine w_pushI rfl ?_
      refine w_iret rfl (Or.inl rfl) ?_
      exact ⟨congrArg (fun v => some (Value.int v)) (show ((-1) : Int32) = f1_worn a by exact ite_eq_of (fun hc => absurd hc (by omega)) (fun _ => rfl)), rfl, fun x hx => rfl, fun x hx => rfl, fun x hx => rfl⟩
