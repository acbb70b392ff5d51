def uC (c k : Int) : Prop := k = 0 ∨ c = k ∨ (k = 1 ∧ c = 4) ∨ (k = 2 ∧ (c = 3 ∨ c = 5)) ∨ (k = 3 ∧ c = 5) ∨ (k = 6 ∧ c = 7)
def uu (c k : Int) : Int := if k = 0 ∨ c = k ∨ (k = 1 ∧ c = 4) ∨ (k = 2 ∧ (c = 3 ∨ c = 5)) ∨ (k = 3 ∧ c = 5) ∨ (k = 6 ∧ c = 7) then 1 else 0
theorem uu_r {c k : Int} : uu c k = 0 ∨ uu c k = 1 := by unfold uu; split; exact Or.inr rfl; exact Or.inl rfl
theorem underC_0 {X : Nat × (Nat → Int32)} {d : Nat} {J M : zA} {R : zR} {k : Int} (hk : 0 ≤ k ∧ k ≤ 7) : zW X (d + 2) 2 0 (gEn 2 [(zi 0), (zi k)]) [] J M R (zPu (uu 0 k) J M R) := by
  show zW _ _ _ _ [some (zi 0), some (zi k), none, none] _ _ _ _ _
  refine z_iload rfl rfl ?_
  refine z_istore rfl rfl ?_
  refine z_pushI (z := 0) rfl rfl ?_
  refine z_istore rfl rfl ?_
  refine z_iload rfl rfl ?_
  refine z_pushI (z := 8) rfl rfl ?_
  refine z_icmp_geF rfl (by decide) (by decide) (by decide) ?_
  refine z_iload rfl rfl ?_
  refine z_callSi (As := [_]) (le := [some _]) rfl rfl (Nat.le_of_ble_eq_true rfl) (Nat.le_of_ble_eq_true rfl) rfl ?_
  refine z_iload rfl rfl ?_
  refine z_if_ltF rfl (by decide) (by decide) ?_
  refine z_iload rfl rfl ?_
  refine z_pushI (z := 8) rfl rfl ?_
  refine z_icmp_geF rfl (by decide) (by decide) (by decide) ?_
  refine z_pushI (z := 1) rfl rfl ?_
  refine z_goto rfl ?_
  refine z_bret rfl rfl (by decide) ?_
  show zW _ _ _ _ _ _ _ _ _ _
  refine z_if_eqF rfl (by decide) (by decide) ?_
  refine z_iload rfl rfl ?_
  refine z_iload rfl rfl ?_
  refine z_icmp_ne rfl (by decide) (by omega) (fun h1 => ?_) (fun h1 => ?_)
  · refine z_getS rfl ?_
    refine z_iload rfl rfl ?_
    refine z_sald (j := 4) (n := 8) (v := (-1)) rfl (by decide) rfl (by decide) (by decide) rfl ?_
    refine z_istore rfl rfl ?_
    refine z_iinc (c := 1) (e := 1) rfl rfl rfl rfl rfl ?_
    refine z_goto rfl ?_
    show zW _ _ _ _ [some (zi 0), some (zi k), some (zi (-1)), some (zi 1)] [] _ _ _ _
    refine z_iload rfl rfl ?_
    refine z_pushI (z := 8) rfl rfl ?_
    refine z_icmp_geF rfl (by decide) (by decide) (by decide) ?_
    refine z_iload rfl rfl ?_
    refine z_callSi (As := [_]) (le := [some _]) rfl rfl (Nat.le_of_ble_eq_true rfl) (Nat.le_of_ble_eq_true rfl) rfl ?_
    refine z_iload rfl rfl ?_
    refine z_if_ltT rfl (by decide) (by decide) ?_
    refine z_pushI (z := 0) rfl rfl ?_
    refine z_bret rfl rfl (by decide) ?_
    show zW _ _ _ _ _ _ _ _ _ _
    refine z_if_eqT rfl (by decide) (by decide) ?_
    refine z_pushI (z := 0) rfl rfl ?_
    refine z_bret rfl rfl (by decide) ?_
    exact ⟨congrArg (fun v => some (zi v)) (by unfold uu; rw [if_neg (by omega)]), rfl, rfl, rfl⟩
  · refine z_pushI (z := 1) rfl rfl ?_
    refine z_bret rfl rfl (by decide) ?_
    exact ⟨congrArg (fun v => some (zi v)) (by unfold uu; rw [if_pos (by omega)]), rfl, rfl, rfl⟩
theorem underC_1 {X : Nat × (Nat → Int32)} {d : Nat} {J M : zA} {R : zR} {k : Int} (hk : 0 ≤ k ∧ k ≤ 7) : zW X (d + 2) 2 0 (gEn 2 [(zi 1), (zi k)]) [] J M R (zPu (uu 1 k) J M R) := by
  show zW _ _ _ _ [some (zi 1), some (zi k), none, none] _ _ _ _ _
  refine z_iload rfl rfl ?_
  refine z_istore rfl rfl ?_
  refine z_pushI (z := 0) rfl rfl ?_
  refine z_istore rfl rfl ?_
  refine z_iload rfl rfl ?_
  refine z_pushI (z := 8) rfl rfl ?_
  refine z_icmp_geF rfl (by decide) (by decide) (by decide) ?_
  refine z_iload rfl rfl ?_
  refine z_callSi (As := [_]) (le := [some _]) rfl rfl (Nat.le_of_ble_eq_true rfl) (Nat.le_of_ble_eq_true rfl) rfl ?_
  refine z_iload rfl rfl ?_
  refine z_if_ltF rfl (by decide) (by decide) ?_
  refine z_iload rfl rfl ?_
  refine z_pushI (z := 8) rfl rfl ?_
  refine z_icmp_geF rfl (by decide) (by decide) (by decide) ?_
  refine z_pushI (z := 1) rfl rfl ?_
  refine z_goto rfl ?_
  refine z_bret rfl rfl (by decide) ?_
  show zW _ _ _ _ _ _ _ _ _ _
  refine z_if_eqF rfl (by decide) (by decide) ?_
  refine z_iload rfl rfl ?_
  refine z_iload rfl rfl ?_
  refine z_icmp_ne rfl (by decide) (by omega) (fun h1 => ?_) (fun h1 => ?_)
  · refine z_getS rfl ?_
    refine z_iload rfl rfl ?_
    refine z_sald (j := 4) (n := 8) (v := 0) rfl (by decide) rfl (by decide) (by decide) rfl ?_
    refine z_istore rfl rfl ?_
    refine z_iinc (c := 1) (e := 1) rfl rfl rfl rfl rfl ?_
    refine z_goto rfl ?_
    show zW _ _ _ _ [some (zi 1), some (zi k), some (zi 0), some (zi 1)] [] _ _ _ _
    refine z_iload rfl rfl ?_
    refine z_pushI (z := 8) rfl rfl ?_
    refine z_icmp_geF rfl (by decide) (by decide) (by decide) ?_
    refine z_iload rfl rfl ?_
    refine z_callSi (As := [_]) (le := [some _]) rfl rfl (Nat.le_of_ble_eq_true rfl) (Nat.le_of_ble_eq_true rfl) rfl ?_
    refine z_iload rfl rfl ?_
    refine z_if_ltF rfl (by decide) (by decide) ?_
    refine z_iload rfl rfl ?_
    refine z_pushI (z := 8) rfl rfl ?_
    refine z_icmp_geF rfl (by decide) (by decide) (by decide) ?_
    refine z_pushI (z := 1) rfl rfl ?_
    refine z_goto rfl ?_
    refine z_bret rfl rfl (by decide) ?_
    show zW _ _ _ _ _ _ _ _ _ _
    refine z_if_eqF rfl (by decide) (by decide) ?_
    refine z_iload rfl rfl ?_
    refine z_iload rfl rfl ?_
    refine z_icmp_ne rfl (by decide) (by omega) (fun h2 => ?_) (fun h2 => ?_)
    · refine z_getS rfl ?_
      refine z_iload rfl rfl ?_
      refine z_sald (j := 4) (n := 8) (v := (-1)) rfl (by decide) rfl (by decide) (by decide) rfl ?_
      refine z_istore rfl rfl ?_
      refine z_iinc (c := 1) (e := 2) rfl rfl rfl rfl rfl ?_
      refine z_goto rfl ?_
      show zW _ _ _ _ [some (zi 1), some (zi k), some (zi (-1)), some (zi 2)] [] _ _ _ _
      refine z_iload rfl rfl ?_
      refine z_pushI (z := 8) rfl rfl ?_
      refine z_icmp_geF rfl (by decide) (by decide) (by decide) ?_
      refine z_iload rfl rfl ?_
      refine z_callSi (As := [_]) (le := [some _]) rfl rfl (Nat.le_of_ble_eq_true rfl) (Nat.le_of_ble_eq_true rfl) rfl ?_
      refine z_iload rfl rfl ?_
      refine z_if_ltT rfl (by decide) (by decide) ?_
      refine z_pushI (z := 0) rfl rfl ?_
      refine z_bret rfl rfl (by decide) ?_
      show zW _ _ _ _ _ _ _ _ _ _
      refine z_if_eqT rfl (by decide) (by decide) ?_
      refine z_pushI (z := 0) rfl rfl ?_
      refine z_bret rfl rfl (by decide) ?_
      exact ⟨congrArg (fun v => some (zi v)) (by unfold uu; rw [if_neg (by omega)]), rfl, rfl, rfl⟩
    · refine z_pushI (z := 1) rfl rfl ?_
      refine z_bret rfl rfl (by decide) ?_
      exact ⟨congrArg (fun v => some (zi v)) (by unfold uu; rw [if_pos (by omega)]), rfl, rfl, rfl⟩
  · refine z_pushI (z := 1) rfl rfl ?_
    refine z_bret rfl rfl (by decide) ?_
    exact ⟨congrArg (fun v => some (zi v)) (by unfold uu; rw [if_pos (by omega)]), rfl, rfl, rfl⟩
theorem underC_2 {X : Nat × (Nat → Int32)} {d : Nat} {J M : zA} {R : zR} {k : Int} (hk : 0 ≤ k ∧ k ≤ 7) : zW X (d + 2) 2 0 (gEn 2 [(zi 2), (zi k)]) [] J M R (zPu (uu 2 k) J M R) := by
  show zW _ _ _ _ [some (zi 2), some (zi k), none, none] _ _ _ _ _
  refine z_iload rfl rfl ?_
  refine z_istore rfl rfl ?_
  refine z_pushI (z := 0) rfl rfl ?_
  refine z_istore rfl rfl ?_
  refine z_iload rfl rfl ?_
  refine z_pushI (z := 8) rfl rfl ?_
  refine z_icmp_geF rfl (by decide) (by decide) (by decide) ?_
  refine z_iload rfl rfl ?_
  refine z_callSi (As := [_]) (le := [some _]) rfl rfl (Nat.le_of_ble_eq_true rfl) (Nat.le_of_ble_eq_true rfl) rfl ?_
  refine z_iload rfl rfl ?_
  refine z_if_ltF rfl (by decide) (by decide) ?_
  refine z_iload rfl rfl ?_
  refine z_pushI (z := 8) rfl rfl ?_
  refine z_icmp_geF rfl (by decide) (by decide) (by decide) ?_
  refine z_pushI (z := 1) rfl rfl ?_
  refine z_goto rfl ?_
  refine z_bret rfl rfl (by decide) ?_
  show zW _ _ _ _ _ _ _ _ _ _
  refine z_if_eqF rfl (by decide) (by decide) ?_
  refine z_iload rfl rfl ?_
  refine z_iload rfl rfl ?_
  refine z_icmp_ne rfl (by decide) (by omega) (fun h1 => ?_) (fun h1 => ?_)
  · refine z_getS rfl ?_
    refine z_iload rfl rfl ?_
    refine z_sald (j := 4) (n := 8) (v := 0) rfl (by decide) rfl (by decide) (by decide) rfl ?_
    refine z_istore rfl rfl ?_
    refine z_iinc (c := 1) (e := 1) rfl rfl rfl rfl rfl ?_
    refine z_goto rfl ?_
    show zW _ _ _ _ [some (zi 2), some (zi k), some (zi 0), some (zi 1)] [] _ _ _ _
    refine z_iload rfl rfl ?_
    refine z_pushI (z := 8) rfl rfl ?_
    refine z_icmp_geF rfl (by decide) (by decide) (by decide) ?_
    refine z_iload rfl rfl ?_
    refine z_callSi (As := [_]) (le := [some _]) rfl rfl (Nat.le_of_ble_eq_true rfl) (Nat.le_of_ble_eq_true rfl) rfl ?_
    refine z_iload rfl rfl ?_
    refine z_if_ltF rfl (by decide) (by decide) ?_
    refine z_iload rfl rfl ?_
    refine z_pushI (z := 8) rfl rfl ?_
    refine z_icmp_geF rfl (by decide) (by decide) (by decide) ?_
    refine z_pushI (z := 1) rfl rfl ?_
    refine z_goto rfl ?_
    refine z_bret rfl rfl (by decide) ?_
    show zW _ _ _ _ _ _ _ _ _ _
    refine z_if_eqF rfl (by decide) (by decide) ?_
    refine z_iload rfl rfl ?_
    refine z_iload rfl rfl ?_
    refine z_icmp_ne rfl (by decide) (by omega) (fun h2 => ?_) (fun h2 => ?_)
    · refine z_getS rfl ?_
      refine z_iload rfl rfl ?_
      refine z_sald (j := 4) (n := 8) (v := (-1)) rfl (by decide) rfl (by decide) (by decide) rfl ?_
      refine z_istore rfl rfl ?_
      refine z_iinc (c := 1) (e := 2) rfl rfl rfl rfl rfl ?_
      refine z_goto rfl ?_
      show zW _ _ _ _ [some (zi 2), some (zi k), some (zi (-1)), some (zi 2)] [] _ _ _ _
      refine z_iload rfl rfl ?_
      refine z_pushI (z := 8) rfl rfl ?_
      refine z_icmp_geF rfl (by decide) (by decide) (by decide) ?_
      refine z_iload rfl rfl ?_
      refine z_callSi (As := [_]) (le := [some _]) rfl rfl (Nat.le_of_ble_eq_true rfl) (Nat.le_of_ble_eq_true rfl) rfl ?_
      refine z_iload rfl rfl ?_
      refine z_if_ltT rfl (by decide) (by decide) ?_
      refine z_pushI (z := 0) rfl rfl ?_
      refine z_bret rfl rfl (by decide) ?_
      show zW _ _ _ _ _ _ _ _ _ _
      refine z_if_eqT rfl (by decide) (by decide) ?_
      refine z_pushI (z := 0) rfl rfl ?_
      refine z_bret rfl rfl (by decide) ?_
      exact ⟨congrArg (fun v => some (zi v)) (by unfold uu; rw [if_neg (by omega)]), rfl, rfl, rfl⟩
    · refine z_pushI (z := 1) rfl rfl ?_
      refine z_bret rfl rfl (by decide) ?_
      exact ⟨congrArg (fun v => some (zi v)) (by unfold uu; rw [if_pos (by omega)]), rfl, rfl, rfl⟩
  · refine z_pushI (z := 1) rfl rfl ?_
    refine z_bret rfl rfl (by decide) ?_
    exact ⟨congrArg (fun v => some (zi v)) (by unfold uu; rw [if_pos (by omega)]), rfl, rfl, rfl⟩
theorem underC_3 {X : Nat × (Nat → Int32)} {d : Nat} {J M : zA} {R : zR} {k : Int} (hk : 0 ≤ k ∧ k ≤ 7) : zW X (d + 2) 2 0 (gEn 2 [(zi 3), (zi k)]) [] J M R (zPu (uu 3 k) J M R) := by
  show zW _ _ _ _ [some (zi 3), some (zi k), none, none] _ _ _ _ _
  refine z_iload rfl rfl ?_
  refine z_istore rfl rfl ?_
  refine z_pushI (z := 0) rfl rfl ?_
  refine z_istore rfl rfl ?_
  refine z_iload rfl rfl ?_
  refine z_pushI (z := 8) rfl rfl ?_
  refine z_icmp_geF rfl (by decide) (by decide) (by decide) ?_
  refine z_iload rfl rfl ?_
  refine z_callSi (As := [_]) (le := [some _]) rfl rfl (Nat.le_of_ble_eq_true rfl) (Nat.le_of_ble_eq_true rfl) rfl ?_
  refine z_iload rfl rfl ?_
  refine z_if_ltF rfl (by decide) (by decide) ?_
  refine z_iload rfl rfl ?_
  refine z_pushI (z := 8) rfl rfl ?_
  refine z_icmp_geF rfl (by decide) (by decide) (by decide) ?_
  refine z_pushI (z := 1) rfl rfl ?_
  refine z_goto rfl ?_
  refine z_bret rfl rfl (by decide) ?_
  show zW _ _ _ _ _ _ _ _ _ _
  refine z_if_eqF rfl (by decide) (by decide) ?_
  refine z_iload rfl rfl ?_
  refine z_iload rfl rfl ?_
  refine z_icmp_ne rfl (by decide) (by omega) (fun h1 => ?_) (fun h1 => ?_)
  · refine z_getS rfl ?_
    refine z_iload rfl rfl ?_
    refine z_sald (j := 4) (n := 8) (v := 2) rfl (by decide) rfl (by decide) (by decide) rfl ?_
    refine z_istore rfl rfl ?_
    refine z_iinc (c := 1) (e := 1) rfl rfl rfl rfl rfl ?_
    refine z_goto rfl ?_
    show zW _ _ _ _ [some (zi 3), some (zi k), some (zi 2), some (zi 1)] [] _ _ _ _
    refine z_iload rfl rfl ?_
    refine z_pushI (z := 8) rfl rfl ?_
    refine z_icmp_geF rfl (by decide) (by decide) (by decide) ?_
    refine z_iload rfl rfl ?_
    refine z_callSi (As := [_]) (le := [some _]) rfl rfl (Nat.le_of_ble_eq_true rfl) (Nat.le_of_ble_eq_true rfl) rfl ?_
    refine z_iload rfl rfl ?_
    refine z_if_ltF rfl (by decide) (by decide) ?_
    refine z_iload rfl rfl ?_
    refine z_pushI (z := 8) rfl rfl ?_
    refine z_icmp_geF rfl (by decide) (by decide) (by decide) ?_
    refine z_pushI (z := 1) rfl rfl ?_
    refine z_goto rfl ?_
    refine z_bret rfl rfl (by decide) ?_
    show zW _ _ _ _ _ _ _ _ _ _
    refine z_if_eqF rfl (by decide) (by decide) ?_
    refine z_iload rfl rfl ?_
    refine z_iload rfl rfl ?_
    refine z_icmp_ne rfl (by decide) (by omega) (fun h2 => ?_) (fun h2 => ?_)
    · refine z_getS rfl ?_
      refine z_iload rfl rfl ?_
      refine z_sald (j := 4) (n := 8) (v := 0) rfl (by decide) rfl (by decide) (by decide) rfl ?_
      refine z_istore rfl rfl ?_
      refine z_iinc (c := 1) (e := 2) rfl rfl rfl rfl rfl ?_
      refine z_goto rfl ?_
      show zW _ _ _ _ [some (zi 3), some (zi k), some (zi 0), some (zi 2)] [] _ _ _ _
      refine z_iload rfl rfl ?_
      refine z_pushI (z := 8) rfl rfl ?_
      refine z_icmp_geF rfl (by decide) (by decide) (by decide) ?_
      refine z_iload rfl rfl ?_
      refine z_callSi (As := [_]) (le := [some _]) rfl rfl (Nat.le_of_ble_eq_true rfl) (Nat.le_of_ble_eq_true rfl) rfl ?_
      refine z_iload rfl rfl ?_
      refine z_if_ltF rfl (by decide) (by decide) ?_
      refine z_iload rfl rfl ?_
      refine z_pushI (z := 8) rfl rfl ?_
      refine z_icmp_geF rfl (by decide) (by decide) (by decide) ?_
      refine z_pushI (z := 1) rfl rfl ?_
      refine z_goto rfl ?_
      refine z_bret rfl rfl (by decide) ?_
      show zW _ _ _ _ _ _ _ _ _ _
      refine z_if_eqF rfl (by decide) (by decide) ?_
      refine z_iload rfl rfl ?_
      refine z_iload rfl rfl ?_
      refine z_icmp_ne rfl (by decide) (by omega) (fun h3 => ?_) (fun h3 => ?_)
      · refine z_getS rfl ?_
        refine z_iload rfl rfl ?_
        refine z_sald (j := 4) (n := 8) (v := (-1)) rfl (by decide) rfl (by decide) (by decide) rfl ?_
        refine z_istore rfl rfl ?_
        refine z_iinc (c := 1) (e := 3) rfl rfl rfl rfl rfl ?_
        refine z_goto rfl ?_
        show zW _ _ _ _ [some (zi 3), some (zi k), some (zi (-1)), some (zi 3)] [] _ _ _ _
        refine z_iload rfl rfl ?_
        refine z_pushI (z := 8) rfl rfl ?_
        refine z_icmp_geF rfl (by decide) (by decide) (by decide) ?_
        refine z_iload rfl rfl ?_
        refine z_callSi (As := [_]) (le := [some _]) rfl rfl (Nat.le_of_ble_eq_true rfl) (Nat.le_of_ble_eq_true rfl) rfl ?_
        refine z_iload rfl rfl ?_
        refine z_if_ltT rfl (by decide) (by decide) ?_
        refine z_pushI (z := 0) rfl rfl ?_
        refine z_bret rfl rfl (by decide) ?_
        show zW _ _ _ _ _ _ _ _ _ _
        refine z_if_eqT rfl (by decide) (by decide) ?_
        refine z_pushI (z := 0) rfl rfl ?_
        refine z_bret rfl rfl (by decide) ?_
        exact ⟨congrArg (fun v => some (zi v)) (by unfold uu; rw [if_neg (by omega)]), rfl, rfl, rfl⟩
      · refine z_pushI (z := 1) rfl rfl ?_
        refine z_bret rfl rfl (by decide) ?_
        exact ⟨congrArg (fun v => some (zi v)) (by unfold uu; rw [if_pos (by omega)]), rfl, rfl, rfl⟩
    · refine z_pushI (z := 1) rfl rfl ?_
      refine z_bret rfl rfl (by decide) ?_
      exact ⟨congrArg (fun v => some (zi v)) (by unfold uu; rw [if_pos (by omega)]), rfl, rfl, rfl⟩
  · refine z_pushI (z := 1) rfl rfl ?_
    refine z_bret rfl rfl (by decide) ?_
    exact ⟨congrArg (fun v => some (zi v)) (by unfold uu; rw [if_pos (by omega)]), rfl, rfl, rfl⟩
theorem underC_4 {X : Nat × (Nat → Int32)} {d : Nat} {J M : zA} {R : zR} {k : Int} (hk : 0 ≤ k ∧ k ≤ 7) : zW X (d + 2) 2 0 (gEn 2 [(zi 4), (zi k)]) [] J M R (zPu (uu 4 k) J M R) := by
  show zW _ _ _ _ [some (zi 4), some (zi k), none, none] _ _ _ _ _
  refine z_iload rfl rfl ?_
  refine z_istore rfl rfl ?_
  refine z_pushI (z := 0) rfl rfl ?_
  refine z_istore rfl rfl ?_
  refine z_iload rfl rfl ?_
  refine z_pushI (z := 8) rfl rfl ?_
  refine z_icmp_geF rfl (by decide) (by decide) (by decide) ?_
  refine z_iload rfl rfl ?_
  refine z_callSi (As := [_]) (le := [some _]) rfl rfl (Nat.le_of_ble_eq_true rfl) (Nat.le_of_ble_eq_true rfl) rfl ?_
  refine z_iload rfl rfl ?_
  refine z_if_ltF rfl (by decide) (by decide) ?_
  refine z_iload rfl rfl ?_
  refine z_pushI (z := 8) rfl rfl ?_
  refine z_icmp_geF rfl (by decide) (by decide) (by decide) ?_
  refine z_pushI (z := 1) rfl rfl ?_
  refine z_goto rfl ?_
  refine z_bret rfl rfl (by decide) ?_
  show zW _ _ _ _ _ _ _ _ _ _
  refine z_if_eqF rfl (by decide) (by decide) ?_
  refine z_iload rfl rfl ?_
  refine z_iload rfl rfl ?_
  refine z_icmp_ne rfl (by decide) (by omega) (fun h1 => ?_) (fun h1 => ?_)
  · refine z_getS rfl ?_
    refine z_iload rfl rfl ?_
    refine z_sald (j := 4) (n := 8) (v := 1) rfl (by decide) rfl (by decide) (by decide) rfl ?_
    refine z_istore rfl rfl ?_
    refine z_iinc (c := 1) (e := 1) rfl rfl rfl rfl rfl ?_
    refine z_goto rfl ?_
    show zW _ _ _ _ [some (zi 4), some (zi k), some (zi 1), some (zi 1)] [] _ _ _ _
    refine z_iload rfl rfl ?_
    refine z_pushI (z := 8) rfl rfl ?_
    refine z_icmp_geF rfl (by decide) (by decide) (by decide) ?_
    refine z_iload rfl rfl ?_
    refine z_callSi (As := [_]) (le := [some _]) rfl rfl (Nat.le_of_ble_eq_true rfl) (Nat.le_of_ble_eq_true rfl) rfl ?_
    refine z_iload rfl rfl ?_
    refine z_if_ltF rfl (by decide) (by decide) ?_
    refine z_iload rfl rfl ?_
    refine z_pushI (z := 8) rfl rfl ?_
    refine z_icmp_geF rfl (by decide) (by decide) (by decide) ?_
    refine z_pushI (z := 1) rfl rfl ?_
    refine z_goto rfl ?_
    refine z_bret rfl rfl (by decide) ?_
    show zW _ _ _ _ _ _ _ _ _ _
    refine z_if_eqF rfl (by decide) (by decide) ?_
    refine z_iload rfl rfl ?_
    refine z_iload rfl rfl ?_
    refine z_icmp_ne rfl (by decide) (by omega) (fun h2 => ?_) (fun h2 => ?_)
    · refine z_getS rfl ?_
      refine z_iload rfl rfl ?_
      refine z_sald (j := 4) (n := 8) (v := 0) rfl (by decide) rfl (by decide) (by decide) rfl ?_
      refine z_istore rfl rfl ?_
      refine z_iinc (c := 1) (e := 2) rfl rfl rfl rfl rfl ?_
      refine z_goto rfl ?_
      show zW _ _ _ _ [some (zi 4), some (zi k), some (zi 0), some (zi 2)] [] _ _ _ _
      refine z_iload rfl rfl ?_
      refine z_pushI (z := 8) rfl rfl ?_
      refine z_icmp_geF rfl (by decide) (by decide) (by decide) ?_
      refine z_iload rfl rfl ?_
      refine z_callSi (As := [_]) (le := [some _]) rfl rfl (Nat.le_of_ble_eq_true rfl) (Nat.le_of_ble_eq_true rfl) rfl ?_
      refine z_iload rfl rfl ?_
      refine z_if_ltF rfl (by decide) (by decide) ?_
      refine z_iload rfl rfl ?_
      refine z_pushI (z := 8) rfl rfl ?_
      refine z_icmp_geF rfl (by decide) (by decide) (by decide) ?_
      refine z_pushI (z := 1) rfl rfl ?_
      refine z_goto rfl ?_
      refine z_bret rfl rfl (by decide) ?_
      show zW _ _ _ _ _ _ _ _ _ _
      refine z_if_eqF rfl (by decide) (by decide) ?_
      refine z_iload rfl rfl ?_
      refine z_iload rfl rfl ?_
      refine z_icmp_ne rfl (by decide) (by omega) (fun h3 => ?_) (fun h3 => ?_)
      · refine z_getS rfl ?_
        refine z_iload rfl rfl ?_
        refine z_sald (j := 4) (n := 8) (v := (-1)) rfl (by decide) rfl (by decide) (by decide) rfl ?_
        refine z_istore rfl rfl ?_
        refine z_iinc (c := 1) (e := 3) rfl rfl rfl rfl rfl ?_
        refine z_goto rfl ?_
        show zW _ _ _ _ [some (zi 4), some (zi k), some (zi (-1)), some (zi 3)] [] _ _ _ _
        refine z_iload rfl rfl ?_
        refine z_pushI (z := 8) rfl rfl ?_
        refine z_icmp_geF rfl (by decide) (by decide) (by decide) ?_
        refine z_iload rfl rfl ?_
        refine z_callSi (As := [_]) (le := [some _]) rfl rfl (Nat.le_of_ble_eq_true rfl) (Nat.le_of_ble_eq_true rfl) rfl ?_
        refine z_iload rfl rfl ?_
        refine z_if_ltT rfl (by decide) (by decide) ?_
        refine z_pushI (z := 0) rfl rfl ?_
        refine z_bret rfl rfl (by decide) ?_
        show zW _ _ _ _ _ _ _ _ _ _
        refine z_if_eqT rfl (by decide) (by decide) ?_
        refine z_pushI (z := 0) rfl rfl ?_
        refine z_bret rfl rfl (by decide) ?_
        exact ⟨congrArg (fun v => some (zi v)) (by unfold uu; rw [if_neg (by omega)]), rfl, rfl, rfl⟩
      · refine z_pushI (z := 1) rfl rfl ?_
        refine z_bret rfl rfl (by decide) ?_
        exact ⟨congrArg (fun v => some (zi v)) (by unfold uu; rw [if_pos (by omega)]), rfl, rfl, rfl⟩
    · refine z_pushI (z := 1) rfl rfl ?_
      refine z_bret rfl rfl (by decide) ?_
      exact ⟨congrArg (fun v => some (zi v)) (by unfold uu; rw [if_pos (by omega)]), rfl, rfl, rfl⟩
  · refine z_pushI (z := 1) rfl rfl ?_
    refine z_bret rfl rfl (by decide) ?_
    exact ⟨congrArg (fun v => some (zi v)) (by unfold uu; rw [if_pos (by omega)]), rfl, rfl, rfl⟩
theorem underC_5 {X : Nat × (Nat → Int32)} {d : Nat} {J M : zA} {R : zR} {k : Int} (hk : 0 ≤ k ∧ k ≤ 7) : zW X (d + 2) 2 0 (gEn 2 [(zi 5), (zi k)]) [] J M R (zPu (uu 5 k) J M R) := by
  show zW _ _ _ _ [some (zi 5), some (zi k), none, none] _ _ _ _ _
  refine z_iload rfl rfl ?_
  refine z_istore rfl rfl ?_
  refine z_pushI (z := 0) rfl rfl ?_
  refine z_istore rfl rfl ?_
  refine z_iload rfl rfl ?_
  refine z_pushI (z := 8) rfl rfl ?_
  refine z_icmp_geF rfl (by decide) (by decide) (by decide) ?_
  refine z_iload rfl rfl ?_
  refine z_callSi (As := [_]) (le := [some _]) rfl rfl (Nat.le_of_ble_eq_true rfl) (Nat.le_of_ble_eq_true rfl) rfl ?_
  refine z_iload rfl rfl ?_
  refine z_if_ltF rfl (by decide) (by decide) ?_
  refine z_iload rfl rfl ?_
  refine z_pushI (z := 8) rfl rfl ?_
  refine z_icmp_geF rfl (by decide) (by decide) (by decide) ?_
  refine z_pushI (z := 1) rfl rfl ?_
  refine z_goto rfl ?_
  refine z_bret rfl rfl (by decide) ?_
  show zW _ _ _ _ _ _ _ _ _ _
  refine z_if_eqF rfl (by decide) (by decide) ?_
  refine z_iload rfl rfl ?_
  refine z_iload rfl rfl ?_
  refine z_icmp_ne rfl (by decide) (by omega) (fun h1 => ?_) (fun h1 => ?_)
  · refine z_getS rfl ?_
    refine z_iload rfl rfl ?_
    refine z_sald (j := 4) (n := 8) (v := 3) rfl (by decide) rfl (by decide) (by decide) rfl ?_
    refine z_istore rfl rfl ?_
    refine z_iinc (c := 1) (e := 1) rfl rfl rfl rfl rfl ?_
    refine z_goto rfl ?_
    show zW _ _ _ _ [some (zi 5), some (zi k), some (zi 3), some (zi 1)] [] _ _ _ _
    refine z_iload rfl rfl ?_
    refine z_pushI (z := 8) rfl rfl ?_
    refine z_icmp_geF rfl (by decide) (by decide) (by decide) ?_
    refine z_iload rfl rfl ?_
    refine z_callSi (As := [_]) (le := [some _]) rfl rfl (Nat.le_of_ble_eq_true rfl) (Nat.le_of_ble_eq_true rfl) rfl ?_
    refine z_iload rfl rfl ?_
    refine z_if_ltF rfl (by decide) (by decide) ?_
    refine z_iload rfl rfl ?_
    refine z_pushI (z := 8) rfl rfl ?_
    refine z_icmp_geF rfl (by decide) (by decide) (by decide) ?_
    refine z_pushI (z := 1) rfl rfl ?_
    refine z_goto rfl ?_
    refine z_bret rfl rfl (by decide) ?_
    show zW _ _ _ _ _ _ _ _ _ _
    refine z_if_eqF rfl (by decide) (by decide) ?_
    refine z_iload rfl rfl ?_
    refine z_iload rfl rfl ?_
    refine z_icmp_ne rfl (by decide) (by omega) (fun h2 => ?_) (fun h2 => ?_)
    · refine z_getS rfl ?_
      refine z_iload rfl rfl ?_
      refine z_sald (j := 4) (n := 8) (v := 2) rfl (by decide) rfl (by decide) (by decide) rfl ?_
      refine z_istore rfl rfl ?_
      refine z_iinc (c := 1) (e := 2) rfl rfl rfl rfl rfl ?_
      refine z_goto rfl ?_
      show zW _ _ _ _ [some (zi 5), some (zi k), some (zi 2), some (zi 2)] [] _ _ _ _
      refine z_iload rfl rfl ?_
      refine z_pushI (z := 8) rfl rfl ?_
      refine z_icmp_geF rfl (by decide) (by decide) (by decide) ?_
      refine z_iload rfl rfl ?_
      refine z_callSi (As := [_]) (le := [some _]) rfl rfl (Nat.le_of_ble_eq_true rfl) (Nat.le_of_ble_eq_true rfl) rfl ?_
      refine z_iload rfl rfl ?_
      refine z_if_ltF rfl (by decide) (by decide) ?_
      refine z_iload rfl rfl ?_
      refine z_pushI (z := 8) rfl rfl ?_
      refine z_icmp_geF rfl (by decide) (by decide) (by decide) ?_
      refine z_pushI (z := 1) rfl rfl ?_
      refine z_goto rfl ?_
      refine z_bret rfl rfl (by decide) ?_
      show zW _ _ _ _ _ _ _ _ _ _
      refine z_if_eqF rfl (by decide) (by decide) ?_
      refine z_iload rfl rfl ?_
      refine z_iload rfl rfl ?_
      refine z_icmp_ne rfl (by decide) (by omega) (fun h3 => ?_) (fun h3 => ?_)
      · refine z_getS rfl ?_
        refine z_iload rfl rfl ?_
        refine z_sald (j := 4) (n := 8) (v := 0) rfl (by decide) rfl (by decide) (by decide) rfl ?_
        refine z_istore rfl rfl ?_
        refine z_iinc (c := 1) (e := 3) rfl rfl rfl rfl rfl ?_
        refine z_goto rfl ?_
        show zW _ _ _ _ [some (zi 5), some (zi k), some (zi 0), some (zi 3)] [] _ _ _ _
        refine z_iload rfl rfl ?_
        refine z_pushI (z := 8) rfl rfl ?_
        refine z_icmp_geF rfl (by decide) (by decide) (by decide) ?_
        refine z_iload rfl rfl ?_
        refine z_callSi (As := [_]) (le := [some _]) rfl rfl (Nat.le_of_ble_eq_true rfl) (Nat.le_of_ble_eq_true rfl) rfl ?_
        refine z_iload rfl rfl ?_
        refine z_if_ltF rfl (by decide) (by decide) ?_
        refine z_iload rfl rfl ?_
        refine z_pushI (z := 8) rfl rfl ?_
        refine z_icmp_geF rfl (by decide) (by decide) (by decide) ?_
        refine z_pushI (z := 1) rfl rfl ?_
        refine z_goto rfl ?_
        refine z_bret rfl rfl (by decide) ?_
        show zW _ _ _ _ _ _ _ _ _ _
        refine z_if_eqF rfl (by decide) (by decide) ?_
        refine z_iload rfl rfl ?_
        refine z_iload rfl rfl ?_
        refine z_icmp_ne rfl (by decide) (by omega) (fun h4 => ?_) (fun h4 => ?_)
        · refine z_getS rfl ?_
          refine z_iload rfl rfl ?_
          refine z_sald (j := 4) (n := 8) (v := (-1)) rfl (by decide) rfl (by decide) (by decide) rfl ?_
          refine z_istore rfl rfl ?_
          refine z_iinc (c := 1) (e := 4) rfl rfl rfl rfl rfl ?_
          refine z_goto rfl ?_
          show zW _ _ _ _ [some (zi 5), some (zi k), some (zi (-1)), some (zi 4)] [] _ _ _ _
          refine z_iload rfl rfl ?_
          refine z_pushI (z := 8) rfl rfl ?_
          refine z_icmp_geF rfl (by decide) (by decide) (by decide) ?_
          refine z_iload rfl rfl ?_
          refine z_callSi (As := [_]) (le := [some _]) rfl rfl (Nat.le_of_ble_eq_true rfl) (Nat.le_of_ble_eq_true rfl) rfl ?_
          refine z_iload rfl rfl ?_
          refine z_if_ltT rfl (by decide) (by decide) ?_
          refine z_pushI (z := 0) rfl rfl ?_
          refine z_bret rfl rfl (by decide) ?_
          show zW _ _ _ _ _ _ _ _ _ _
          refine z_if_eqT rfl (by decide) (by decide) ?_
          refine z_pushI (z := 0) rfl rfl ?_
          refine z_bret rfl rfl (by decide) ?_
          exact ⟨congrArg (fun v => some (zi v)) (by unfold uu; rw [if_neg (by omega)]), rfl, rfl, rfl⟩
        · refine z_pushI (z := 1) rfl rfl ?_
          refine z_bret rfl rfl (by decide) ?_
          exact ⟨congrArg (fun v => some (zi v)) (by unfold uu; rw [if_pos (by omega)]), rfl, rfl, rfl⟩
      · refine z_pushI (z := 1) rfl rfl ?_
        refine z_bret rfl rfl (by decide) ?_
        exact ⟨congrArg (fun v => some (zi v)) (by unfold uu; rw [if_pos (by omega)]), rfl, rfl, rfl⟩
    · refine z_pushI (z := 1) rfl rfl ?_
      refine z_bret rfl rfl (by decide) ?_
      exact ⟨congrArg (fun v => some (zi v)) (by unfold uu; rw [if_pos (by omega)]), rfl, rfl, rfl⟩
  · refine z_pushI (z := 1) rfl rfl ?_
    refine z_bret rfl rfl (by decide) ?_
    exact ⟨congrArg (fun v => some (zi v)) (by unfold uu; rw [if_pos (by omega)]), rfl, rfl, rfl⟩
theorem underC_6 {X : Nat × (Nat → Int32)} {d : Nat} {J M : zA} {R : zR} {k : Int} (hk : 0 ≤ k ∧ k ≤ 7) : zW X (d + 2) 2 0 (gEn 2 [(zi 6), (zi k)]) [] J M R (zPu (uu 6 k) J M R) := by
  show zW _ _ _ _ [some (zi 6), some (zi k), none, none] _ _ _ _ _
  refine z_iload rfl rfl ?_
  refine z_istore rfl rfl ?_
  refine z_pushI (z := 0) rfl rfl ?_
  refine z_istore rfl rfl ?_
  refine z_iload rfl rfl ?_
  refine z_pushI (z := 8) rfl rfl ?_
  refine z_icmp_geF rfl (by decide) (by decide) (by decide) ?_
  refine z_iload rfl rfl ?_
  refine z_callSi (As := [_]) (le := [some _]) rfl rfl (Nat.le_of_ble_eq_true rfl) (Nat.le_of_ble_eq_true rfl) rfl ?_
  refine z_iload rfl rfl ?_
  refine z_if_ltF rfl (by decide) (by decide) ?_
  refine z_iload rfl rfl ?_
  refine z_pushI (z := 8) rfl rfl ?_
  refine z_icmp_geF rfl (by decide) (by decide) (by decide) ?_
  refine z_pushI (z := 1) rfl rfl ?_
  refine z_goto rfl ?_
  refine z_bret rfl rfl (by decide) ?_
  show zW _ _ _ _ _ _ _ _ _ _
  refine z_if_eqF rfl (by decide) (by decide) ?_
  refine z_iload rfl rfl ?_
  refine z_iload rfl rfl ?_
  refine z_icmp_ne rfl (by decide) (by omega) (fun h1 => ?_) (fun h1 => ?_)
  · refine z_getS rfl ?_
    refine z_iload rfl rfl ?_
    refine z_sald (j := 4) (n := 8) (v := 0) rfl (by decide) rfl (by decide) (by decide) rfl ?_
    refine z_istore rfl rfl ?_
    refine z_iinc (c := 1) (e := 1) rfl rfl rfl rfl rfl ?_
    refine z_goto rfl ?_
    show zW _ _ _ _ [some (zi 6), some (zi k), some (zi 0), some (zi 1)] [] _ _ _ _
    refine z_iload rfl rfl ?_
    refine z_pushI (z := 8) rfl rfl ?_
    refine z_icmp_geF rfl (by decide) (by decide) (by decide) ?_
    refine z_iload rfl rfl ?_
    refine z_callSi (As := [_]) (le := [some _]) rfl rfl (Nat.le_of_ble_eq_true rfl) (Nat.le_of_ble_eq_true rfl) rfl ?_
    refine z_iload rfl rfl ?_
    refine z_if_ltF rfl (by decide) (by decide) ?_
    refine z_iload rfl rfl ?_
    refine z_pushI (z := 8) rfl rfl ?_
    refine z_icmp_geF rfl (by decide) (by decide) (by decide) ?_
    refine z_pushI (z := 1) rfl rfl ?_
    refine z_goto rfl ?_
    refine z_bret rfl rfl (by decide) ?_
    show zW _ _ _ _ _ _ _ _ _ _
    refine z_if_eqF rfl (by decide) (by decide) ?_
    refine z_iload rfl rfl ?_
    refine z_iload rfl rfl ?_
    refine z_icmp_ne rfl (by decide) (by omega) (fun h2 => ?_) (fun h2 => ?_)
    · refine z_getS rfl ?_
      refine z_iload rfl rfl ?_
      refine z_sald (j := 4) (n := 8) (v := (-1)) rfl (by decide) rfl (by decide) (by decide) rfl ?_
      refine z_istore rfl rfl ?_
      refine z_iinc (c := 1) (e := 2) rfl rfl rfl rfl rfl ?_
      refine z_goto rfl ?_
      show zW _ _ _ _ [some (zi 6), some (zi k), some (zi (-1)), some (zi 2)] [] _ _ _ _
      refine z_iload rfl rfl ?_
      refine z_pushI (z := 8) rfl rfl ?_
      refine z_icmp_geF rfl (by decide) (by decide) (by decide) ?_
      refine z_iload rfl rfl ?_
      refine z_callSi (As := [_]) (le := [some _]) rfl rfl (Nat.le_of_ble_eq_true rfl) (Nat.le_of_ble_eq_true rfl) rfl ?_
      refine z_iload rfl rfl ?_
      refine z_if_ltT rfl (by decide) (by decide) ?_
      refine z_pushI (z := 0) rfl rfl ?_
      refine z_bret rfl rfl (by decide) ?_
      show zW _ _ _ _ _ _ _ _ _ _
      refine z_if_eqT rfl (by decide) (by decide) ?_
      refine z_pushI (z := 0) rfl rfl ?_
      refine z_bret rfl rfl (by decide) ?_
      exact ⟨congrArg (fun v => some (zi v)) (by unfold uu; rw [if_neg (by omega)]), rfl, rfl, rfl⟩
    · refine z_pushI (z := 1) rfl rfl ?_
      refine z_bret rfl rfl (by decide) ?_
      exact ⟨congrArg (fun v => some (zi v)) (by unfold uu; rw [if_pos (by omega)]), rfl, rfl, rfl⟩
  · refine z_pushI (z := 1) rfl rfl ?_
    refine z_bret rfl rfl (by decide) ?_
    exact ⟨congrArg (fun v => some (zi v)) (by unfold uu; rw [if_pos (by omega)]), rfl, rfl, rfl⟩
theorem underC_7 {X : Nat × (Nat → Int32)} {d : Nat} {J M : zA} {R : zR} {k : Int} (hk : 0 ≤ k ∧ k ≤ 7) : zW X (d + 2) 2 0 (gEn 2 [(zi 7), (zi k)]) [] J M R (zPu (uu 7 k) J M R) := by
  show zW _ _ _ _ [some (zi 7), some (zi k), none, none] _ _ _ _ _
  refine z_iload rfl rfl ?_
  refine z_istore rfl rfl ?_
  refine z_pushI (z := 0) rfl rfl ?_
  refine z_istore rfl rfl ?_
  refine z_iload rfl rfl ?_
  refine z_pushI (z := 8) rfl rfl ?_
  refine z_icmp_geF rfl (by decide) (by decide) (by decide) ?_
  refine z_iload rfl rfl ?_
  refine z_callSi (As := [_]) (le := [some _]) rfl rfl (Nat.le_of_ble_eq_true rfl) (Nat.le_of_ble_eq_true rfl) rfl ?_
  refine z_iload rfl rfl ?_
  refine z_if_ltF rfl (by decide) (by decide) ?_
  refine z_iload rfl rfl ?_
  refine z_pushI (z := 8) rfl rfl ?_
  refine z_icmp_geF rfl (by decide) (by decide) (by decide) ?_
  refine z_pushI (z := 1) rfl rfl ?_
  refine z_goto rfl ?_
  refine z_bret rfl rfl (by decide) ?_
  show zW _ _ _ _ _ _ _ _ _ _
  refine z_if_eqF rfl (by decide) (by decide) ?_
  refine z_iload rfl rfl ?_
  refine z_iload rfl rfl ?_
  refine z_icmp_ne rfl (by decide) (by omega) (fun h1 => ?_) (fun h1 => ?_)
  · refine z_getS rfl ?_
    refine z_iload rfl rfl ?_
    refine z_sald (j := 4) (n := 8) (v := 6) rfl (by decide) rfl (by decide) (by decide) rfl ?_
    refine z_istore rfl rfl ?_
    refine z_iinc (c := 1) (e := 1) rfl rfl rfl rfl rfl ?_
    refine z_goto rfl ?_
    show zW _ _ _ _ [some (zi 7), some (zi k), some (zi 6), some (zi 1)] [] _ _ _ _
    refine z_iload rfl rfl ?_
    refine z_pushI (z := 8) rfl rfl ?_
    refine z_icmp_geF rfl (by decide) (by decide) (by decide) ?_
    refine z_iload rfl rfl ?_
    refine z_callSi (As := [_]) (le := [some _]) rfl rfl (Nat.le_of_ble_eq_true rfl) (Nat.le_of_ble_eq_true rfl) rfl ?_
    refine z_iload rfl rfl ?_
    refine z_if_ltF rfl (by decide) (by decide) ?_
    refine z_iload rfl rfl ?_
    refine z_pushI (z := 8) rfl rfl ?_
    refine z_icmp_geF rfl (by decide) (by decide) (by decide) ?_
    refine z_pushI (z := 1) rfl rfl ?_
    refine z_goto rfl ?_
    refine z_bret rfl rfl (by decide) ?_
    show zW _ _ _ _ _ _ _ _ _ _
    refine z_if_eqF rfl (by decide) (by decide) ?_
    refine z_iload rfl rfl ?_
    refine z_iload rfl rfl ?_
    refine z_icmp_ne rfl (by decide) (by omega) (fun h2 => ?_) (fun h2 => ?_)
    · refine z_getS rfl ?_
      refine z_iload rfl rfl ?_
      refine z_sald (j := 4) (n := 8) (v := 0) rfl (by decide) rfl (by decide) (by decide) rfl ?_
      refine z_istore rfl rfl ?_
      refine z_iinc (c := 1) (e := 2) rfl rfl rfl rfl rfl ?_
      refine z_goto rfl ?_
      show zW _ _ _ _ [some (zi 7), some (zi k), some (zi 0), some (zi 2)] [] _ _ _ _
      refine z_iload rfl rfl ?_
      refine z_pushI (z := 8) rfl rfl ?_
      refine z_icmp_geF rfl (by decide) (by decide) (by decide) ?_
      refine z_iload rfl rfl ?_
      refine z_callSi (As := [_]) (le := [some _]) rfl rfl (Nat.le_of_ble_eq_true rfl) (Nat.le_of_ble_eq_true rfl) rfl ?_
      refine z_iload rfl rfl ?_
      refine z_if_ltF rfl (by decide) (by decide) ?_
      refine z_iload rfl rfl ?_
      refine z_pushI (z := 8) rfl rfl ?_
      refine z_icmp_geF rfl (by decide) (by decide) (by decide) ?_
      refine z_pushI (z := 1) rfl rfl ?_
      refine z_goto rfl ?_
      refine z_bret rfl rfl (by decide) ?_
      show zW _ _ _ _ _ _ _ _ _ _
      refine z_if_eqF rfl (by decide) (by decide) ?_
      refine z_iload rfl rfl ?_
      refine z_iload rfl rfl ?_
      refine z_icmp_ne rfl (by decide) (by omega) (fun h3 => ?_) (fun h3 => ?_)
      · refine z_getS rfl ?_
        refine z_iload rfl rfl ?_
        refine z_sald (j := 4) (n := 8) (v := (-1)) rfl (by decide) rfl (by decide) (by decide) rfl ?_
        refine z_istore rfl rfl ?_
        refine z_iinc (c := 1) (e := 3) rfl rfl rfl rfl rfl ?_
        refine z_goto rfl ?_
        show zW _ _ _ _ [some (zi 7), some (zi k), some (zi (-1)), some (zi 3)] [] _ _ _ _
        refine z_iload rfl rfl ?_
        refine z_pushI (z := 8) rfl rfl ?_
        refine z_icmp_geF rfl (by decide) (by decide) (by decide) ?_
        refine z_iload rfl rfl ?_
        refine z_callSi (As := [_]) (le := [some _]) rfl rfl (Nat.le_of_ble_eq_true rfl) (Nat.le_of_ble_eq_true rfl) rfl ?_
        refine z_iload rfl rfl ?_
        refine z_if_ltT rfl (by decide) (by decide) ?_
        refine z_pushI (z := 0) rfl rfl ?_
        refine z_bret rfl rfl (by decide) ?_
        show zW _ _ _ _ _ _ _ _ _ _
        refine z_if_eqT rfl (by decide) (by decide) ?_
        refine z_pushI (z := 0) rfl rfl ?_
        refine z_bret rfl rfl (by decide) ?_
        exact ⟨congrArg (fun v => some (zi v)) (by unfold uu; rw [if_neg (by omega)]), rfl, rfl, rfl⟩
      · refine z_pushI (z := 1) rfl rfl ?_
        refine z_bret rfl rfl (by decide) ?_
        exact ⟨congrArg (fun v => some (zi v)) (by unfold uu; rw [if_pos (by omega)]), rfl, rfl, rfl⟩
    · refine z_pushI (z := 1) rfl rfl ?_
      refine z_bret rfl rfl (by decide) ?_
      exact ⟨congrArg (fun v => some (zi v)) (by unfold uu; rw [if_pos (by omega)]), rfl, rfl, rfl⟩
  · refine z_pushI (z := 1) rfl rfl ?_
    refine z_bret rfl rfl (by decide) ?_
    exact ⟨congrArg (fun v => some (zi v)) (by unfold uu; rw [if_pos (by omega)]), rfl, rfl, rfl⟩
theorem underC {X : Nat × (Nat → Int32)} {d : Nat} {J M : zA} {R : zR} {c k : Int} (hc : 0 ≤ c ∧ c ≤ 7) (hk : 0 ≤ k ∧ k ≤ 7) : zW X (d + 2) 2 0 (gEn 2 [(zi c), (zi k)]) [] J M R (zPu (uu c k) J M R) := by
  have h7 : c = 0 ∨ c = 1 ∨ c = 2 ∨ c = 3 ∨ c = 4 ∨ c = 5 ∨ c = 6 ∨ c = 7 := by omega
  rcases h7 with rfl | rfl | rfl | rfl | rfl | rfl | rfl | rfl
  · exact underC_0 hk
  · exact underC_1 hk
  · exact underC_2 hk
  · exact underC_3 hk
  · exact underC_4 hk
  · exact underC_5 hk
  · exact underC_6 hk
  · exact underC_7 hk
theorem underR_0 {X : Nat × (Nat → Int32)} {d : Nat} {J M : zA} {R : zR} {k : Int} (hk : 0 ≤ k ∧ k ≤ 7) : zW X (d + 2) 234 0 (gEn 234 [(zi 0), (zi k)]) [] J M R (zPu (uu 0 k) J M R) := by
  show zW _ _ _ _ [some (zi 0), some (zi k)] _ _ _ _ _
  refine z_iload rfl rfl ?_
  refine z_if_eq rfl (by omega) (fun h1 => ?_) (fun h1 => ?_)
  · refine z_pushI (z := 1) rfl rfl ?_
    refine z_goto rfl ?_
    refine z_bret rfl rfl (by decide) ?_
    exact ⟨congrArg (fun v => some (zi v)) (by unfold uu; rw [if_pos (by omega)]), rfl, rfl, rfl⟩
  · refine z_iload rfl rfl ?_
    refine z_iload rfl rfl ?_
    refine z_icmp_eqF rfl (by decide) (by omega) (by omega) ?_
    refine z_iload rfl rfl ?_
    refine z_pushI (z := 1) rfl rfl ?_
    refine z_icmp_ne rfl (by omega) (by decide) (fun h2 => ?_) (fun h2 => ?_)
    · refine z_iload rfl rfl ?_
      refine z_pushI (z := 2) rfl rfl ?_
      refine z_icmp_ne rfl (by omega) (by decide) (fun h3 => ?_) (fun h3 => ?_)
      · refine z_iload rfl rfl ?_
        refine z_pushI (z := 3) rfl rfl ?_
        refine z_icmp_ne rfl (by omega) (by decide) (fun h4 => ?_) (fun h4 => ?_)
        · refine z_iload rfl rfl ?_
          refine z_pushI (z := 6) rfl rfl ?_
          refine z_icmp_ne rfl (by omega) (by decide) (fun h5 => ?_) (fun h5 => ?_)
          · refine z_pushI (z := 0) rfl rfl ?_
            refine z_bret rfl rfl (by decide) ?_
            exact ⟨congrArg (fun v => some (zi v)) (by unfold uu; rw [if_neg (by omega)]), rfl, rfl, rfl⟩
          · refine z_iload rfl rfl ?_
            refine z_pushI (z := 7) rfl rfl ?_
            refine z_icmp_neT rfl (by decide) (by decide) (by decide) ?_
            refine z_pushI (z := 0) rfl rfl ?_
            refine z_bret rfl rfl (by decide) ?_
            exact ⟨congrArg (fun v => some (zi v)) (by unfold uu; rw [if_neg (by omega)]), rfl, rfl, rfl⟩
        · refine z_iload rfl rfl ?_
          refine z_pushI (z := 5) rfl rfl ?_
          refine z_icmp_eqF rfl (by decide) (by decide) (by decide) ?_
          refine z_iload rfl rfl ?_
          refine z_pushI (z := 6) rfl rfl ?_
          refine z_icmp_neT rfl (by omega) (by decide) (by omega) ?_
          refine z_pushI (z := 0) rfl rfl ?_
          refine z_bret rfl rfl (by decide) ?_
          exact ⟨congrArg (fun v => some (zi v)) (by unfold uu; rw [if_neg (by omega)]), rfl, rfl, rfl⟩
      · refine z_iload rfl rfl ?_
        refine z_pushI (z := 3) rfl rfl ?_
        refine z_icmp_eqF rfl (by decide) (by decide) (by decide) ?_
        refine z_iload rfl rfl ?_
        refine z_pushI (z := 5) rfl rfl ?_
        refine z_icmp_eqF rfl (by decide) (by decide) (by decide) ?_
        refine z_iload rfl rfl ?_
        refine z_pushI (z := 3) rfl rfl ?_
        refine z_icmp_neT rfl (by omega) (by decide) (by omega) ?_
        refine z_iload rfl rfl ?_
        refine z_pushI (z := 6) rfl rfl ?_
        refine z_icmp_neT rfl (by omega) (by decide) (by omega) ?_
        refine z_pushI (z := 0) rfl rfl ?_
        refine z_bret rfl rfl (by decide) ?_
        exact ⟨congrArg (fun v => some (zi v)) (by unfold uu; rw [if_neg (by omega)]), rfl, rfl, rfl⟩
    · refine z_iload rfl rfl ?_
      refine z_pushI (z := 4) rfl rfl ?_
      refine z_icmp_eqF rfl (by decide) (by decide) (by decide) ?_
      refine z_iload rfl rfl ?_
      refine z_pushI (z := 2) rfl rfl ?_
      refine z_icmp_neT rfl (by omega) (by decide) (by omega) ?_
      refine z_iload rfl rfl ?_
      refine z_pushI (z := 3) rfl rfl ?_
      refine z_icmp_neT rfl (by omega) (by decide) (by omega) ?_
      refine z_iload rfl rfl ?_
      refine z_pushI (z := 6) rfl rfl ?_
      refine z_icmp_neT rfl (by omega) (by decide) (by omega) ?_
      refine z_pushI (z := 0) rfl rfl ?_
      refine z_bret rfl rfl (by decide) ?_
      exact ⟨congrArg (fun v => some (zi v)) (by unfold uu; rw [if_neg (by omega)]), rfl, rfl, rfl⟩
theorem underR_1 {X : Nat × (Nat → Int32)} {d : Nat} {J M : zA} {R : zR} {k : Int} (hk : 0 ≤ k ∧ k ≤ 7) : zW X (d + 2) 234 0 (gEn 234 [(zi 1), (zi k)]) [] J M R (zPu (uu 1 k) J M R) := by
  show zW _ _ _ _ [some (zi 1), some (zi k)] _ _ _ _ _
  refine z_iload rfl rfl ?_
  refine z_if_eq rfl (by omega) (fun h1 => ?_) (fun h1 => ?_)
  · refine z_pushI (z := 1) rfl rfl ?_
    refine z_goto rfl ?_
    refine z_bret rfl rfl (by decide) ?_
    exact ⟨congrArg (fun v => some (zi v)) (by unfold uu; rw [if_pos (by omega)]), rfl, rfl, rfl⟩
  · refine z_iload rfl rfl ?_
    refine z_iload rfl rfl ?_
    refine z_icmp_eq rfl (by decide) (by omega) (fun h2 => ?_) (fun h2 => ?_)
    · refine z_pushI (z := 1) rfl rfl ?_
      refine z_goto rfl ?_
      refine z_bret rfl rfl (by decide) ?_
      exact ⟨congrArg (fun v => some (zi v)) (by unfold uu; rw [if_pos (by omega)]), rfl, rfl, rfl⟩
    · refine z_iload rfl rfl ?_
      refine z_pushI (z := 1) rfl rfl ?_
      refine z_icmp_neT rfl (by omega) (by decide) (by omega) ?_
      refine z_iload rfl rfl ?_
      refine z_pushI (z := 2) rfl rfl ?_
      refine z_icmp_ne rfl (by omega) (by decide) (fun h3 => ?_) (fun h3 => ?_)
      · refine z_iload rfl rfl ?_
        refine z_pushI (z := 3) rfl rfl ?_
        refine z_icmp_ne rfl (by omega) (by decide) (fun h4 => ?_) (fun h4 => ?_)
        · refine z_iload rfl rfl ?_
          refine z_pushI (z := 6) rfl rfl ?_
          refine z_icmp_ne rfl (by omega) (by decide) (fun h5 => ?_) (fun h5 => ?_)
          · refine z_pushI (z := 0) rfl rfl ?_
            refine z_bret rfl rfl (by decide) ?_
            exact ⟨congrArg (fun v => some (zi v)) (by unfold uu; rw [if_neg (by omega)]), rfl, rfl, rfl⟩
          · refine z_iload rfl rfl ?_
            refine z_pushI (z := 7) rfl rfl ?_
            refine z_icmp_neT rfl (by decide) (by decide) (by decide) ?_
            refine z_pushI (z := 0) rfl rfl ?_
            refine z_bret rfl rfl (by decide) ?_
            exact ⟨congrArg (fun v => some (zi v)) (by unfold uu; rw [if_neg (by omega)]), rfl, rfl, rfl⟩
        · refine z_iload rfl rfl ?_
          refine z_pushI (z := 5) rfl rfl ?_
          refine z_icmp_eqF rfl (by decide) (by decide) (by decide) ?_
          refine z_iload rfl rfl ?_
          refine z_pushI (z := 6) rfl rfl ?_
          refine z_icmp_neT rfl (by omega) (by decide) (by omega) ?_
          refine z_pushI (z := 0) rfl rfl ?_
          refine z_bret rfl rfl (by decide) ?_
          exact ⟨congrArg (fun v => some (zi v)) (by unfold uu; rw [if_neg (by omega)]), rfl, rfl, rfl⟩
      · refine z_iload rfl rfl ?_
        refine z_pushI (z := 3) rfl rfl ?_
        refine z_icmp_eqF rfl (by decide) (by decide) (by decide) ?_
        refine z_iload rfl rfl ?_
        refine z_pushI (z := 5) rfl rfl ?_
        refine z_icmp_eqF rfl (by decide) (by decide) (by decide) ?_
        refine z_iload rfl rfl ?_
        refine z_pushI (z := 3) rfl rfl ?_
        refine z_icmp_neT rfl (by omega) (by decide) (by omega) ?_
        refine z_iload rfl rfl ?_
        refine z_pushI (z := 6) rfl rfl ?_
        refine z_icmp_neT rfl (by omega) (by decide) (by omega) ?_
        refine z_pushI (z := 0) rfl rfl ?_
        refine z_bret rfl rfl (by decide) ?_
        exact ⟨congrArg (fun v => some (zi v)) (by unfold uu; rw [if_neg (by omega)]), rfl, rfl, rfl⟩
theorem underR_2 {X : Nat × (Nat → Int32)} {d : Nat} {J M : zA} {R : zR} {k : Int} (hk : 0 ≤ k ∧ k ≤ 7) : zW X (d + 2) 234 0 (gEn 234 [(zi 2), (zi k)]) [] J M R (zPu (uu 2 k) J M R) := by
  show zW _ _ _ _ [some (zi 2), some (zi k)] _ _ _ _ _
  refine z_iload rfl rfl ?_
  refine z_if_eq rfl (by omega) (fun h1 => ?_) (fun h1 => ?_)
  · refine z_pushI (z := 1) rfl rfl ?_
    refine z_goto rfl ?_
    refine z_bret rfl rfl (by decide) ?_
    exact ⟨congrArg (fun v => some (zi v)) (by unfold uu; rw [if_pos (by omega)]), rfl, rfl, rfl⟩
  · refine z_iload rfl rfl ?_
    refine z_iload rfl rfl ?_
    refine z_icmp_eq rfl (by decide) (by omega) (fun h2 => ?_) (fun h2 => ?_)
    · refine z_pushI (z := 1) rfl rfl ?_
      refine z_goto rfl ?_
      refine z_bret rfl rfl (by decide) ?_
      exact ⟨congrArg (fun v => some (zi v)) (by unfold uu; rw [if_pos (by omega)]), rfl, rfl, rfl⟩
    · refine z_iload rfl rfl ?_
      refine z_pushI (z := 1) rfl rfl ?_
      refine z_icmp_ne rfl (by omega) (by decide) (fun h3 => ?_) (fun h3 => ?_)
      · refine z_iload rfl rfl ?_
        refine z_pushI (z := 2) rfl rfl ?_
        refine z_icmp_ne rfl (by omega) (by decide) (fun h4 => ?_) (fun h4 => ?_)
        · refine z_iload rfl rfl ?_
          refine z_pushI (z := 3) rfl rfl ?_
          refine z_icmp_ne rfl (by omega) (by decide) (fun h5 => ?_) (fun h5 => ?_)
          · refine z_iload rfl rfl ?_
            refine z_pushI (z := 6) rfl rfl ?_
            refine z_icmp_ne rfl (by omega) (by decide) (fun h6 => ?_) (fun h6 => ?_)
            · refine z_pushI (z := 0) rfl rfl ?_
              refine z_bret rfl rfl (by decide) ?_
              exact ⟨congrArg (fun v => some (zi v)) (by unfold uu; rw [if_neg (by omega)]), rfl, rfl, rfl⟩
            · refine z_iload rfl rfl ?_
              refine z_pushI (z := 7) rfl rfl ?_
              refine z_icmp_neT rfl (by decide) (by decide) (by decide) ?_
              refine z_pushI (z := 0) rfl rfl ?_
              refine z_bret rfl rfl (by decide) ?_
              exact ⟨congrArg (fun v => some (zi v)) (by unfold uu; rw [if_neg (by omega)]), rfl, rfl, rfl⟩
          · refine z_iload rfl rfl ?_
            refine z_pushI (z := 5) rfl rfl ?_
            refine z_icmp_eqF rfl (by decide) (by decide) (by decide) ?_
            refine z_iload rfl rfl ?_
            refine z_pushI (z := 6) rfl rfl ?_
            refine z_icmp_neT rfl (by omega) (by decide) (by omega) ?_
            refine z_pushI (z := 0) rfl rfl ?_
            refine z_bret rfl rfl (by decide) ?_
            exact ⟨congrArg (fun v => some (zi v)) (by unfold uu; rw [if_neg (by omega)]), rfl, rfl, rfl⟩
        · refine z_iload rfl rfl ?_
          refine z_pushI (z := 3) rfl rfl ?_
          refine z_icmp_eqF rfl (by decide) (by decide) (by decide) ?_
          refine z_iload rfl rfl ?_
          refine z_pushI (z := 5) rfl rfl ?_
          refine z_icmp_eqF rfl (by decide) (by decide) (by decide) ?_
          refine z_iload rfl rfl ?_
          refine z_pushI (z := 3) rfl rfl ?_
          refine z_icmp_neT rfl (by omega) (by decide) (by omega) ?_
          refine z_iload rfl rfl ?_
          refine z_pushI (z := 6) rfl rfl ?_
          refine z_icmp_neT rfl (by omega) (by decide) (by omega) ?_
          refine z_pushI (z := 0) rfl rfl ?_
          refine z_bret rfl rfl (by decide) ?_
          exact ⟨congrArg (fun v => some (zi v)) (by unfold uu; rw [if_neg (by omega)]), rfl, rfl, rfl⟩
      · refine z_iload rfl rfl ?_
        refine z_pushI (z := 4) rfl rfl ?_
        refine z_icmp_eqF rfl (by decide) (by decide) (by decide) ?_
        refine z_iload rfl rfl ?_
        refine z_pushI (z := 2) rfl rfl ?_
        refine z_icmp_neT rfl (by omega) (by decide) (by omega) ?_
        refine z_iload rfl rfl ?_
        refine z_pushI (z := 3) rfl rfl ?_
        refine z_icmp_neT rfl (by omega) (by decide) (by omega) ?_
        refine z_iload rfl rfl ?_
        refine z_pushI (z := 6) rfl rfl ?_
        refine z_icmp_neT rfl (by omega) (by decide) (by omega) ?_
        refine z_pushI (z := 0) rfl rfl ?_
        refine z_bret rfl rfl (by decide) ?_
        exact ⟨congrArg (fun v => some (zi v)) (by unfold uu; rw [if_neg (by omega)]), rfl, rfl, rfl⟩
theorem underR_3 {X : Nat × (Nat → Int32)} {d : Nat} {J M : zA} {R : zR} {k : Int} (hk : 0 ≤ k ∧ k ≤ 7) : zW X (d + 2) 234 0 (gEn 234 [(zi 3), (zi k)]) [] J M R (zPu (uu 3 k) J M R) := by
  show zW _ _ _ _ [some (zi 3), some (zi k)] _ _ _ _ _
  refine z_iload rfl rfl ?_
  refine z_if_eq rfl (by omega) (fun h1 => ?_) (fun h1 => ?_)
  · refine z_pushI (z := 1) rfl rfl ?_
    refine z_goto rfl ?_
    refine z_bret rfl rfl (by decide) ?_
    exact ⟨congrArg (fun v => some (zi v)) (by unfold uu; rw [if_pos (by omega)]), rfl, rfl, rfl⟩
  · refine z_iload rfl rfl ?_
    refine z_iload rfl rfl ?_
    refine z_icmp_eq rfl (by decide) (by omega) (fun h2 => ?_) (fun h2 => ?_)
    · refine z_pushI (z := 1) rfl rfl ?_
      refine z_goto rfl ?_
      refine z_bret rfl rfl (by decide) ?_
      exact ⟨congrArg (fun v => some (zi v)) (by unfold uu; rw [if_pos (by omega)]), rfl, rfl, rfl⟩
    · refine z_iload rfl rfl ?_
      refine z_pushI (z := 1) rfl rfl ?_
      refine z_icmp_ne rfl (by omega) (by decide) (fun h3 => ?_) (fun h3 => ?_)
      · refine z_iload rfl rfl ?_
        refine z_pushI (z := 2) rfl rfl ?_
        refine z_icmp_ne rfl (by omega) (by decide) (fun h4 => ?_) (fun h4 => ?_)
        · refine z_iload rfl rfl ?_
          refine z_pushI (z := 3) rfl rfl ?_
          refine z_icmp_ne rfl (by omega) (by decide) (fun h5 => ?_) (fun h5 => ?_)
          · refine z_iload rfl rfl ?_
            refine z_pushI (z := 6) rfl rfl ?_
            refine z_icmp_ne rfl (by omega) (by decide) (fun h6 => ?_) (fun h6 => ?_)
            · refine z_pushI (z := 0) rfl rfl ?_
              refine z_bret rfl rfl (by decide) ?_
              exact ⟨congrArg (fun v => some (zi v)) (by unfold uu; rw [if_neg (by omega)]), rfl, rfl, rfl⟩
            · refine z_iload rfl rfl ?_
              refine z_pushI (z := 7) rfl rfl ?_
              refine z_icmp_neT rfl (by decide) (by decide) (by decide) ?_
              refine z_pushI (z := 0) rfl rfl ?_
              refine z_bret rfl rfl (by decide) ?_
              exact ⟨congrArg (fun v => some (zi v)) (by unfold uu; rw [if_neg (by omega)]), rfl, rfl, rfl⟩
          · refine z_iload rfl rfl ?_
            refine z_pushI (z := 5) rfl rfl ?_
            refine z_icmp_eqF rfl (by decide) (by decide) (by decide) ?_
            refine z_iload rfl rfl ?_
            refine z_pushI (z := 6) rfl rfl ?_
            refine z_icmp_neT rfl (by omega) (by decide) (by omega) ?_
            refine z_pushI (z := 0) rfl rfl ?_
            refine z_bret rfl rfl (by decide) ?_
            exact ⟨congrArg (fun v => some (zi v)) (by unfold uu; rw [if_neg (by omega)]), rfl, rfl, rfl⟩
        · refine z_iload rfl rfl ?_
          refine z_pushI (z := 3) rfl rfl ?_
          refine z_icmp_eqT rfl (by decide) (by decide) (by decide) ?_
          refine z_pushI (z := 1) rfl rfl ?_
          refine z_goto rfl ?_
          refine z_bret rfl rfl (by decide) ?_
          exact ⟨congrArg (fun v => some (zi v)) (by unfold uu; rw [if_pos (by omega)]), rfl, rfl, rfl⟩
      · refine z_iload rfl rfl ?_
        refine z_pushI (z := 4) rfl rfl ?_
        refine z_icmp_eqF rfl (by decide) (by decide) (by decide) ?_
        refine z_iload rfl rfl ?_
        refine z_pushI (z := 2) rfl rfl ?_
        refine z_icmp_neT rfl (by omega) (by decide) (by omega) ?_
        refine z_iload rfl rfl ?_
        refine z_pushI (z := 3) rfl rfl ?_
        refine z_icmp_neT rfl (by omega) (by decide) (by omega) ?_
        refine z_iload rfl rfl ?_
        refine z_pushI (z := 6) rfl rfl ?_
        refine z_icmp_neT rfl (by omega) (by decide) (by omega) ?_
        refine z_pushI (z := 0) rfl rfl ?_
        refine z_bret rfl rfl (by decide) ?_
        exact ⟨congrArg (fun v => some (zi v)) (by unfold uu; rw [if_neg (by omega)]), rfl, rfl, rfl⟩
theorem underR_4 {X : Nat × (Nat → Int32)} {d : Nat} {J M : zA} {R : zR} {k : Int} (hk : 0 ≤ k ∧ k ≤ 7) : zW X (d + 2) 234 0 (gEn 234 [(zi 4), (zi k)]) [] J M R (zPu (uu 4 k) J M R) := by
  show zW _ _ _ _ [some (zi 4), some (zi k)] _ _ _ _ _
  refine z_iload rfl rfl ?_
  refine z_if_eq rfl (by omega) (fun h1 => ?_) (fun h1 => ?_)
  · refine z_pushI (z := 1) rfl rfl ?_
    refine z_goto rfl ?_
    refine z_bret rfl rfl (by decide) ?_
    exact ⟨congrArg (fun v => some (zi v)) (by unfold uu; rw [if_pos (by omega)]), rfl, rfl, rfl⟩
  · refine z_iload rfl rfl ?_
    refine z_iload rfl rfl ?_
    refine z_icmp_eq rfl (by decide) (by omega) (fun h2 => ?_) (fun h2 => ?_)
    · refine z_pushI (z := 1) rfl rfl ?_
      refine z_goto rfl ?_
      refine z_bret rfl rfl (by decide) ?_
      exact ⟨congrArg (fun v => some (zi v)) (by unfold uu; rw [if_pos (by omega)]), rfl, rfl, rfl⟩
    · refine z_iload rfl rfl ?_
      refine z_pushI (z := 1) rfl rfl ?_
      refine z_icmp_ne rfl (by omega) (by decide) (fun h3 => ?_) (fun h3 => ?_)
      · refine z_iload rfl rfl ?_
        refine z_pushI (z := 2) rfl rfl ?_
        refine z_icmp_ne rfl (by omega) (by decide) (fun h4 => ?_) (fun h4 => ?_)
        · refine z_iload rfl rfl ?_
          refine z_pushI (z := 3) rfl rfl ?_
          refine z_icmp_ne rfl (by omega) (by decide) (fun h5 => ?_) (fun h5 => ?_)
          · refine z_iload rfl rfl ?_
            refine z_pushI (z := 6) rfl rfl ?_
            refine z_icmp_ne rfl (by omega) (by decide) (fun h6 => ?_) (fun h6 => ?_)
            · refine z_pushI (z := 0) rfl rfl ?_
              refine z_bret rfl rfl (by decide) ?_
              exact ⟨congrArg (fun v => some (zi v)) (by unfold uu; rw [if_neg (by omega)]), rfl, rfl, rfl⟩
            · refine z_iload rfl rfl ?_
              refine z_pushI (z := 7) rfl rfl ?_
              refine z_icmp_neT rfl (by decide) (by decide) (by decide) ?_
              refine z_pushI (z := 0) rfl rfl ?_
              refine z_bret rfl rfl (by decide) ?_
              exact ⟨congrArg (fun v => some (zi v)) (by unfold uu; rw [if_neg (by omega)]), rfl, rfl, rfl⟩
          · refine z_iload rfl rfl ?_
            refine z_pushI (z := 5) rfl rfl ?_
            refine z_icmp_eqF rfl (by decide) (by decide) (by decide) ?_
            refine z_iload rfl rfl ?_
            refine z_pushI (z := 6) rfl rfl ?_
            refine z_icmp_neT rfl (by omega) (by decide) (by omega) ?_
            refine z_pushI (z := 0) rfl rfl ?_
            refine z_bret rfl rfl (by decide) ?_
            exact ⟨congrArg (fun v => some (zi v)) (by unfold uu; rw [if_neg (by omega)]), rfl, rfl, rfl⟩
        · refine z_iload rfl rfl ?_
          refine z_pushI (z := 3) rfl rfl ?_
          refine z_icmp_eqF rfl (by decide) (by decide) (by decide) ?_
          refine z_iload rfl rfl ?_
          refine z_pushI (z := 5) rfl rfl ?_
          refine z_icmp_eqF rfl (by decide) (by decide) (by decide) ?_
          refine z_iload rfl rfl ?_
          refine z_pushI (z := 3) rfl rfl ?_
          refine z_icmp_neT rfl (by omega) (by decide) (by omega) ?_
          refine z_iload rfl rfl ?_
          refine z_pushI (z := 6) rfl rfl ?_
          refine z_icmp_neT rfl (by omega) (by decide) (by omega) ?_
          refine z_pushI (z := 0) rfl rfl ?_
          refine z_bret rfl rfl (by decide) ?_
          exact ⟨congrArg (fun v => some (zi v)) (by unfold uu; rw [if_neg (by omega)]), rfl, rfl, rfl⟩
      · refine z_iload rfl rfl ?_
        refine z_pushI (z := 4) rfl rfl ?_
        refine z_icmp_eqT rfl (by decide) (by decide) (by decide) ?_
        refine z_pushI (z := 1) rfl rfl ?_
        refine z_goto rfl ?_
        refine z_bret rfl rfl (by decide) ?_
        exact ⟨congrArg (fun v => some (zi v)) (by unfold uu; rw [if_pos (by omega)]), rfl, rfl, rfl⟩
theorem underR_5 {X : Nat × (Nat → Int32)} {d : Nat} {J M : zA} {R : zR} {k : Int} (hk : 0 ≤ k ∧ k ≤ 7) : zW X (d + 2) 234 0 (gEn 234 [(zi 5), (zi k)]) [] J M R (zPu (uu 5 k) J M R) := by
  show zW _ _ _ _ [some (zi 5), some (zi k)] _ _ _ _ _
  refine z_iload rfl rfl ?_
  refine z_if_eq rfl (by omega) (fun h1 => ?_) (fun h1 => ?_)
  · refine z_pushI (z := 1) rfl rfl ?_
    refine z_goto rfl ?_
    refine z_bret rfl rfl (by decide) ?_
    exact ⟨congrArg (fun v => some (zi v)) (by unfold uu; rw [if_pos (by omega)]), rfl, rfl, rfl⟩
  · refine z_iload rfl rfl ?_
    refine z_iload rfl rfl ?_
    refine z_icmp_eq rfl (by decide) (by omega) (fun h2 => ?_) (fun h2 => ?_)
    · refine z_pushI (z := 1) rfl rfl ?_
      refine z_goto rfl ?_
      refine z_bret rfl rfl (by decide) ?_
      exact ⟨congrArg (fun v => some (zi v)) (by unfold uu; rw [if_pos (by omega)]), rfl, rfl, rfl⟩
    · refine z_iload rfl rfl ?_
      refine z_pushI (z := 1) rfl rfl ?_
      refine z_icmp_ne rfl (by omega) (by decide) (fun h3 => ?_) (fun h3 => ?_)
      · refine z_iload rfl rfl ?_
        refine z_pushI (z := 2) rfl rfl ?_
        refine z_icmp_ne rfl (by omega) (by decide) (fun h4 => ?_) (fun h4 => ?_)
        · refine z_iload rfl rfl ?_
          refine z_pushI (z := 3) rfl rfl ?_
          refine z_icmp_ne rfl (by omega) (by decide) (fun h5 => ?_) (fun h5 => ?_)
          · refine z_iload rfl rfl ?_
            refine z_pushI (z := 6) rfl rfl ?_
            refine z_icmp_ne rfl (by omega) (by decide) (fun h6 => ?_) (fun h6 => ?_)
            · refine z_pushI (z := 0) rfl rfl ?_
              refine z_bret rfl rfl (by decide) ?_
              exact ⟨congrArg (fun v => some (zi v)) (by unfold uu; rw [if_neg (by omega)]), rfl, rfl, rfl⟩
            · refine z_iload rfl rfl ?_
              refine z_pushI (z := 7) rfl rfl ?_
              refine z_icmp_neT rfl (by decide) (by decide) (by decide) ?_
              refine z_pushI (z := 0) rfl rfl ?_
              refine z_bret rfl rfl (by decide) ?_
              exact ⟨congrArg (fun v => some (zi v)) (by unfold uu; rw [if_neg (by omega)]), rfl, rfl, rfl⟩
          · refine z_iload rfl rfl ?_
            refine z_pushI (z := 5) rfl rfl ?_
            refine z_icmp_eqT rfl (by decide) (by decide) (by decide) ?_
            refine z_pushI (z := 1) rfl rfl ?_
            refine z_goto rfl ?_
            refine z_bret rfl rfl (by decide) ?_
            exact ⟨congrArg (fun v => some (zi v)) (by unfold uu; rw [if_pos (by omega)]), rfl, rfl, rfl⟩
        · refine z_iload rfl rfl ?_
          refine z_pushI (z := 3) rfl rfl ?_
          refine z_icmp_eqF rfl (by decide) (by decide) (by decide) ?_
          refine z_iload rfl rfl ?_
          refine z_pushI (z := 5) rfl rfl ?_
          refine z_icmp_eqT rfl (by decide) (by decide) (by decide) ?_
          refine z_pushI (z := 1) rfl rfl ?_
          refine z_goto rfl ?_
          refine z_bret rfl rfl (by decide) ?_
          exact ⟨congrArg (fun v => some (zi v)) (by unfold uu; rw [if_pos (by omega)]), rfl, rfl, rfl⟩
      · refine z_iload rfl rfl ?_
        refine z_pushI (z := 4) rfl rfl ?_
        refine z_icmp_eqF rfl (by decide) (by decide) (by decide) ?_
        refine z_iload rfl rfl ?_
        refine z_pushI (z := 2) rfl rfl ?_
        refine z_icmp_neT rfl (by omega) (by decide) (by omega) ?_
        refine z_iload rfl rfl ?_
        refine z_pushI (z := 3) rfl rfl ?_
        refine z_icmp_neT rfl (by omega) (by decide) (by omega) ?_
        refine z_iload rfl rfl ?_
        refine z_pushI (z := 6) rfl rfl ?_
        refine z_icmp_neT rfl (by omega) (by decide) (by omega) ?_
        refine z_pushI (z := 0) rfl rfl ?_
        refine z_bret rfl rfl (by decide) ?_
        exact ⟨congrArg (fun v => some (zi v)) (by unfold uu; rw [if_neg (by omega)]), rfl, rfl, rfl⟩
theorem underR_6 {X : Nat × (Nat → Int32)} {d : Nat} {J M : zA} {R : zR} {k : Int} (hk : 0 ≤ k ∧ k ≤ 7) : zW X (d + 2) 234 0 (gEn 234 [(zi 6), (zi k)]) [] J M R (zPu (uu 6 k) J M R) := by
  show zW _ _ _ _ [some (zi 6), some (zi k)] _ _ _ _ _
  refine z_iload rfl rfl ?_
  refine z_if_eq rfl (by omega) (fun h1 => ?_) (fun h1 => ?_)
  · refine z_pushI (z := 1) rfl rfl ?_
    refine z_goto rfl ?_
    refine z_bret rfl rfl (by decide) ?_
    exact ⟨congrArg (fun v => some (zi v)) (by unfold uu; rw [if_pos (by omega)]), rfl, rfl, rfl⟩
  · refine z_iload rfl rfl ?_
    refine z_iload rfl rfl ?_
    refine z_icmp_eq rfl (by decide) (by omega) (fun h2 => ?_) (fun h2 => ?_)
    · refine z_pushI (z := 1) rfl rfl ?_
      refine z_goto rfl ?_
      refine z_bret rfl rfl (by decide) ?_
      exact ⟨congrArg (fun v => some (zi v)) (by unfold uu; rw [if_pos (by omega)]), rfl, rfl, rfl⟩
    · refine z_iload rfl rfl ?_
      refine z_pushI (z := 1) rfl rfl ?_
      refine z_icmp_ne rfl (by omega) (by decide) (fun h3 => ?_) (fun h3 => ?_)
      · refine z_iload rfl rfl ?_
        refine z_pushI (z := 2) rfl rfl ?_
        refine z_icmp_ne rfl (by omega) (by decide) (fun h4 => ?_) (fun h4 => ?_)
        · refine z_iload rfl rfl ?_
          refine z_pushI (z := 3) rfl rfl ?_
          refine z_icmp_ne rfl (by omega) (by decide) (fun h5 => ?_) (fun h5 => ?_)
          · refine z_iload rfl rfl ?_
            refine z_pushI (z := 6) rfl rfl ?_
            refine z_icmp_ne rfl (by omega) (by decide) (fun h6 => ?_) (fun h6 => ?_)
            · refine z_pushI (z := 0) rfl rfl ?_
              refine z_bret rfl rfl (by decide) ?_
              exact ⟨congrArg (fun v => some (zi v)) (by unfold uu; rw [if_neg (by omega)]), rfl, rfl, rfl⟩
            · refine z_iload rfl rfl ?_
              refine z_pushI (z := 7) rfl rfl ?_
              refine z_icmp_neT rfl (by decide) (by decide) (by decide) ?_
              refine z_pushI (z := 0) rfl rfl ?_
              refine z_bret rfl rfl (by decide) ?_
              exact ⟨congrArg (fun v => some (zi v)) (by unfold uu; rw [if_neg (by omega)]), rfl, rfl, rfl⟩
          · refine z_iload rfl rfl ?_
            refine z_pushI (z := 5) rfl rfl ?_
            refine z_icmp_eqF rfl (by decide) (by decide) (by decide) ?_
            refine z_iload rfl rfl ?_
            refine z_pushI (z := 6) rfl rfl ?_
            refine z_icmp_neT rfl (by omega) (by decide) (by omega) ?_
            refine z_pushI (z := 0) rfl rfl ?_
            refine z_bret rfl rfl (by decide) ?_
            exact ⟨congrArg (fun v => some (zi v)) (by unfold uu; rw [if_neg (by omega)]), rfl, rfl, rfl⟩
        · refine z_iload rfl rfl ?_
          refine z_pushI (z := 3) rfl rfl ?_
          refine z_icmp_eqF rfl (by decide) (by decide) (by decide) ?_
          refine z_iload rfl rfl ?_
          refine z_pushI (z := 5) rfl rfl ?_
          refine z_icmp_eqF rfl (by decide) (by decide) (by decide) ?_
          refine z_iload rfl rfl ?_
          refine z_pushI (z := 3) rfl rfl ?_
          refine z_icmp_neT rfl (by omega) (by decide) (by omega) ?_
          refine z_iload rfl rfl ?_
          refine z_pushI (z := 6) rfl rfl ?_
          refine z_icmp_neT rfl (by omega) (by decide) (by omega) ?_
          refine z_pushI (z := 0) rfl rfl ?_
          refine z_bret rfl rfl (by decide) ?_
          exact ⟨congrArg (fun v => some (zi v)) (by unfold uu; rw [if_neg (by omega)]), rfl, rfl, rfl⟩
      · refine z_iload rfl rfl ?_
        refine z_pushI (z := 4) rfl rfl ?_
        refine z_icmp_eqF rfl (by decide) (by decide) (by decide) ?_
        refine z_iload rfl rfl ?_
        refine z_pushI (z := 2) rfl rfl ?_
        refine z_icmp_neT rfl (by omega) (by decide) (by omega) ?_
        refine z_iload rfl rfl ?_
        refine z_pushI (z := 3) rfl rfl ?_
        refine z_icmp_neT rfl (by omega) (by decide) (by omega) ?_
        refine z_iload rfl rfl ?_
        refine z_pushI (z := 6) rfl rfl ?_
        refine z_icmp_neT rfl (by omega) (by decide) (by omega) ?_
        refine z_pushI (z := 0) rfl rfl ?_
        refine z_bret rfl rfl (by decide) ?_
        exact ⟨congrArg (fun v => some (zi v)) (by unfold uu; rw [if_neg (by omega)]), rfl, rfl, rfl⟩
theorem underR_7 {X : Nat × (Nat → Int32)} {d : Nat} {J M : zA} {R : zR} {k : Int} (hk : 0 ≤ k ∧ k ≤ 7) : zW X (d + 2) 234 0 (gEn 234 [(zi 7), (zi k)]) [] J M R (zPu (uu 7 k) J M R) := by
  show zW _ _ _ _ [some (zi 7), some (zi k)] _ _ _ _ _
  refine z_iload rfl rfl ?_
  refine z_if_eq rfl (by omega) (fun h1 => ?_) (fun h1 => ?_)
  · refine z_pushI (z := 1) rfl rfl ?_
    refine z_goto rfl ?_
    refine z_bret rfl rfl (by decide) ?_
    exact ⟨congrArg (fun v => some (zi v)) (by unfold uu; rw [if_pos (by omega)]), rfl, rfl, rfl⟩
  · refine z_iload rfl rfl ?_
    refine z_iload rfl rfl ?_
    refine z_icmp_eq rfl (by decide) (by omega) (fun h2 => ?_) (fun h2 => ?_)
    · refine z_pushI (z := 1) rfl rfl ?_
      refine z_goto rfl ?_
      refine z_bret rfl rfl (by decide) ?_
      exact ⟨congrArg (fun v => some (zi v)) (by unfold uu; rw [if_pos (by omega)]), rfl, rfl, rfl⟩
    · refine z_iload rfl rfl ?_
      refine z_pushI (z := 1) rfl rfl ?_
      refine z_icmp_ne rfl (by omega) (by decide) (fun h3 => ?_) (fun h3 => ?_)
      · refine z_iload rfl rfl ?_
        refine z_pushI (z := 2) rfl rfl ?_
        refine z_icmp_ne rfl (by omega) (by decide) (fun h4 => ?_) (fun h4 => ?_)
        · refine z_iload rfl rfl ?_
          refine z_pushI (z := 3) rfl rfl ?_
          refine z_icmp_ne rfl (by omega) (by decide) (fun h5 => ?_) (fun h5 => ?_)
          · refine z_iload rfl rfl ?_
            refine z_pushI (z := 6) rfl rfl ?_
            refine z_icmp_ne rfl (by omega) (by decide) (fun h6 => ?_) (fun h6 => ?_)
            · refine z_pushI (z := 0) rfl rfl ?_
              refine z_bret rfl rfl (by decide) ?_
              exact ⟨congrArg (fun v => some (zi v)) (by unfold uu; rw [if_neg (by omega)]), rfl, rfl, rfl⟩
            · refine z_iload rfl rfl ?_
              refine z_pushI (z := 7) rfl rfl ?_
              refine z_icmp_neF rfl (by decide) (by decide) (by decide) ?_
              refine z_pushI (z := 1) rfl rfl ?_
              refine z_goto rfl ?_
              refine z_bret rfl rfl (by decide) ?_
              exact ⟨congrArg (fun v => some (zi v)) (by unfold uu; rw [if_pos (by omega)]), rfl, rfl, rfl⟩
          · refine z_iload rfl rfl ?_
            refine z_pushI (z := 5) rfl rfl ?_
            refine z_icmp_eqF rfl (by decide) (by decide) (by decide) ?_
            refine z_iload rfl rfl ?_
            refine z_pushI (z := 6) rfl rfl ?_
            refine z_icmp_neT rfl (by omega) (by decide) (by omega) ?_
            refine z_pushI (z := 0) rfl rfl ?_
            refine z_bret rfl rfl (by decide) ?_
            exact ⟨congrArg (fun v => some (zi v)) (by unfold uu; rw [if_neg (by omega)]), rfl, rfl, rfl⟩
        · refine z_iload rfl rfl ?_
          refine z_pushI (z := 3) rfl rfl ?_
          refine z_icmp_eqF rfl (by decide) (by decide) (by decide) ?_
          refine z_iload rfl rfl ?_
          refine z_pushI (z := 5) rfl rfl ?_
          refine z_icmp_eqF rfl (by decide) (by decide) (by decide) ?_
          refine z_iload rfl rfl ?_
          refine z_pushI (z := 3) rfl rfl ?_
          refine z_icmp_neT rfl (by omega) (by decide) (by omega) ?_
          refine z_iload rfl rfl ?_
          refine z_pushI (z := 6) rfl rfl ?_
          refine z_icmp_neT rfl (by omega) (by decide) (by omega) ?_
          refine z_pushI (z := 0) rfl rfl ?_
          refine z_bret rfl rfl (by decide) ?_
          exact ⟨congrArg (fun v => some (zi v)) (by unfold uu; rw [if_neg (by omega)]), rfl, rfl, rfl⟩
      · refine z_iload rfl rfl ?_
        refine z_pushI (z := 4) rfl rfl ?_
        refine z_icmp_eqF rfl (by decide) (by decide) (by decide) ?_
        refine z_iload rfl rfl ?_
        refine z_pushI (z := 2) rfl rfl ?_
        refine z_icmp_neT rfl (by omega) (by decide) (by omega) ?_
        refine z_iload rfl rfl ?_
        refine z_pushI (z := 3) rfl rfl ?_
        refine z_icmp_neT rfl (by omega) (by decide) (by omega) ?_
        refine z_iload rfl rfl ?_
        refine z_pushI (z := 6) rfl rfl ?_
        refine z_icmp_neT rfl (by omega) (by decide) (by omega) ?_
        refine z_pushI (z := 0) rfl rfl ?_
        refine z_bret rfl rfl (by decide) ?_
        exact ⟨congrArg (fun v => some (zi v)) (by unfold uu; rw [if_neg (by omega)]), rfl, rfl, rfl⟩
theorem underR {X : Nat × (Nat → Int32)} {d : Nat} {J M : zA} {R : zR} {c k : Int} (hc : 0 ≤ c ∧ c ≤ 7) (hk : 0 ≤ k ∧ k ≤ 7) : zW X (d + 2) 234 0 (gEn 234 [(zi c), (zi k)]) [] J M R (zPu (uu c k) J M R) := by
  have h7 : c = 0 ∨ c = 1 ∨ c = 2 ∨ c = 3 ∨ c = 4 ∨ c = 5 ∨ c = 6 ∨ c = 7 := by omega
  rcases h7 with rfl | rfl | rfl | rfl | rfl | rfl | rfl | rfl
  · exact underR_0 hk
  · exact underR_1 hk
  · exact underR_2 hk
  · exact underR_3 hk
  · exact underR_4 hk
  · exact underR_5 hk
  · exact underR_6 hk
  · exact underR_7 hk
theorem st_taken_n {X : Nat × (Nat → Int32)} {d : Nat} {J M : zA} {R : zR} {s k : Int} (hr : Rel X J M R) (hs : -2147483648 ≤ s ∧ s < 2147483648) (hk : -2147483648 ≤ k ∧ k < 2147483648) (hs6 : ¬ (0 ≤ s ∧ s < 6)) : zW X (d + 20) 141 0 (gEn 141 [(.ref 0), (zi s), (zi k)]) [] J M R (stP X (d + 20) 255 [(zi s), (zi k)]) := by
  have hr0 := hr
  obtain ⟨hR, hG, hY, hD, hP, hC, hAc, hS, hTp, hX, hW⟩ := hr0
  have hRr : zRoR R := zRoR_of hR
  show zW _ _ _ _ [some (.ref 0), some (zi s), some (zi k), none, none] _ _ _ _ _
  refine z_iload rfl rfl ?_
  refine z_callSi (As := [_]) (le := [some _]) rfl rfl (Nat.le_of_ble_eq_true rfl) (Nat.le_of_ble_eq_true rfl) rfl ?_
  refine z_iload rfl rfl ?_
  refine z_if_lt rfl (by omega) (fun h1 => ?_) (fun h1 => ?_)
  · refine z_pushI (z := 0) rfl rfl ?_
    refine z_bret rfl rfl (by decide) ?_
    show zW _ _ _ _ _ _ _ _ _ _
    refine z_if_eqT rfl (by decide) (by decide) ?_
    refine z_pushI (z := (-1)) rfl rfl ?_
    refine z_iret rfl rfl ?_
    refine ⟨_, rfl, ?_⟩
    show zW _ _ _ _ [some (.ref 50), some (zi s), some (zi k)] _ _ _ _ _
    refine z_iload rfl rfl ?_
    refine z_callSi (As := [_]) (le := [some _]) rfl rfl (Nat.le_of_ble_eq_true rfl) (Nat.le_of_ble_eq_true rfl) rfl ?_
    refine z_iload rfl rfl ?_
    refine z_pushI (z := 0) rfl rfl ?_
    refine z_pushI (z := 5) rfl rfl ?_
    refine z_callSi (As := [_, _, _]) (le := [some _, some _, some _]) rfl rfl (Nat.le_of_ble_eq_true rfl) (Nat.le_of_ble_eq_true rfl) rfl ?_
    refine z_iload rfl rfl ?_
    refine z_iload rfl rfl ?_
    refine z_icmp_ltT rfl (by omega) (by decide) (by omega) ?_
    refine z_pushI (z := 0) rfl rfl ?_
    refine z_bret rfl rfl (by decide) ?_
    show zW _ _ _ _ _ _ _ _ _ _
    refine z_bret rfl rfl (by decide) ?_
    show zW _ _ _ _ _ _ _ _ _ _
    refine z_if_eqT rfl (by decide) (by decide) ?_
    refine z_pushI (z := (-1)) rfl rfl ?_
    refine z_iret rfl rfl ?_
    refine ⟨?_, ?_⟩
    · first | rfl | exact congrArg (fun v => some (zi v)) (by omega) | (exfalso; omega)
    · exact hr
  · refine z_iload rfl rfl ?_
    refine z_pushI (z := 6) rfl rfl ?_
    refine z_icmp_geT rfl (by omega) (by decide) (by omega) ?_
    refine z_pushI (z := 0) rfl rfl ?_
    refine z_bret rfl rfl (by decide) ?_
    show zW _ _ _ _ _ _ _ _ _ _
    refine z_if_eqT rfl (by decide) (by decide) ?_
    refine z_pushI (z := (-1)) rfl rfl ?_
    refine z_iret rfl rfl ?_
    refine ⟨_, rfl, ?_⟩
    show zW _ _ _ _ [some (.ref 50), some (zi s), some (zi k)] _ _ _ _ _
    refine z_iload rfl rfl ?_
    refine z_callSi (As := [_]) (le := [some _]) rfl rfl (Nat.le_of_ble_eq_true rfl) (Nat.le_of_ble_eq_true rfl) rfl ?_
    refine z_iload rfl rfl ?_
    refine z_pushI (z := 0) rfl rfl ?_
    refine z_pushI (z := 5) rfl rfl ?_
    refine z_callSi (As := [_, _, _]) (le := [some _, some _, some _]) rfl rfl (Nat.le_of_ble_eq_true rfl) (Nat.le_of_ble_eq_true rfl) rfl ?_
    refine z_iload rfl rfl ?_
    refine z_iload rfl rfl ?_
    refine z_icmp_ltF rfl (by omega) (by decide) (by omega) ?_
    refine z_iload rfl rfl ?_
    refine z_iload rfl rfl ?_
    refine z_icmp_gtT rfl (by omega) (by decide) (by omega) ?_
    refine z_pushI (z := 0) rfl rfl ?_
    refine z_bret rfl rfl (by decide) ?_
    show zW _ _ _ _ _ _ _ _ _ _
    refine z_bret rfl rfl (by decide) ?_
    show zW _ _ _ _ _ _ _ _ _ _
    refine z_if_eqT rfl (by decide) (by decide) ?_
    refine z_pushI (z := (-1)) rfl rfl ?_
    refine z_iret rfl rfl ?_
    refine ⟨?_, ?_⟩
    · first | rfl | exact congrArg (fun v => some (zi v)) (by omega) | (exfalso; omega)
    · exact hr
theorem st_taken_0 {X : Nat × (Nat → Int32)} {d : Nat} {J M : zA} {R : zR} {s k : Int} (hr : Rel X J M R) (hs : -2147483648 ≤ s ∧ s < 2147483648) (hk : -2147483648 ≤ k ∧ k < 2147483648) (hs6 : 0 ≤ s ∧ s < 6) (hh : J (38 + 2 * s.toNat) 0 = 0) : zW X (d + 20) 141 0 (gEn 141 [(.ref 0), (zi s), (zi k)]) [] J M R (stP X (d + 20) 255 [(zi s), (zi k)]) := by
  have hr0 := hr
  obtain ⟨hR, hG, hY, hD, hP, hC, hAc, hS, hTp, hX, hW⟩ := hr0
  have hRr : zRoR R := zRoR_of hR
  have hA0 := hAc
  obtain ⟨a1, a2, a3, a4, a5, a6⟩ := hA0
  have e83 : J 83 s = -1 := (hS s hs6.1 hs6.2).1.symm.trans (cH_0 hh)
  have s3 : 0 ≤ J (38 + 2 * s.toNat) 2 ∧ J (38 + 2 * s.toNat) 2 ≤ 4 := (hS s hs6.1 hs6.2).2.2.1
  have s4 : 0 ≤ J (38 + 2 * s.toNat) 3 ∧ J (38 + 2 * s.toNat) 3 ≤ 60 := (hS s hs6.1 hs6.2).2.2.2.1
  show zW _ _ _ _ [some (.ref 0), some (zi s), some (zi k), none, none] _ _ _ _ _
  refine z_iload rfl rfl ?_
  refine z_callSi (As := [_]) (le := [some _]) rfl rfl (Nat.le_of_ble_eq_true rfl) (Nat.le_of_ble_eq_true rfl) rfl ?_
  refine z_iload rfl rfl ?_
  refine z_if_ltF rfl (by omega) (by omega) ?_
  refine z_iload rfl rfl ?_
  refine z_pushI (z := 6) rfl rfl ?_
  refine z_icmp_geF rfl (by omega) (by decide) (by omega) ?_
  refine z_pushI (z := 1) rfl rfl ?_
  refine z_goto rfl ?_
  refine z_bret rfl rfl (by decide) ?_
  show zW _ _ _ _ _ _ _ _ _ _
  refine z_if_eqF rfl (by decide) (by decide) ?_
  refine z_iload rfl rfl ?_
  refine z_callSi (As := [_]) (le := [some _]) rfl rfl (Nat.le_of_ble_eq_true rfl) (Nat.le_of_ble_eq_true rfl) rfl ?_
  refine z_iload rfl rfl ?_
  refine z_if_lt rfl (by omega) (fun h1 => ?_) (fun h1 => ?_)
  · refine z_pushI (z := 0) rfl rfl ?_
    refine z_bret rfl rfl (by decide) ?_
    show zW _ _ _ _ _ _ _ _ _ _
    refine z_if_neF rfl (by decide) (by decide) ?_
    refine z_pushI (z := (-1)) rfl rfl ?_
    refine z_iret rfl rfl ?_
    refine ⟨_, rfl, ?_⟩
    show zW _ _ _ _ [some (.ref 50), some (zi s), some (zi k)] _ _ _ _ _
    refine z_iload rfl rfl ?_
    refine z_callSi (As := [_]) (le := [some _]) rfl rfl (Nat.le_of_ble_eq_true rfl) (Nat.le_of_ble_eq_true rfl) rfl ?_
    refine z_iload rfl rfl ?_
    refine z_pushI (z := 0) rfl rfl ?_
    refine z_pushI (z := 5) rfl rfl ?_
    refine z_callSi (As := [_, _, _]) (le := [some _, some _, some _]) rfl rfl (Nat.le_of_ble_eq_true rfl) (Nat.le_of_ble_eq_true rfl) rfl ?_
    refine z_iload rfl rfl ?_
    refine z_iload rfl rfl ?_
    refine z_icmp_ltF rfl (by omega) (by decide) (by omega) ?_
    refine z_iload rfl rfl ?_
    refine z_iload rfl rfl ?_
    refine z_icmp_gtF rfl (by omega) (by decide) (by omega) ?_
    refine z_pushI (z := 1) rfl rfl ?_
    refine z_goto rfl ?_
    refine z_bret rfl rfl (by decide) ?_
    show zW _ _ _ _ _ _ _ _ _ _
    refine z_bret rfl rfl (by decide) ?_
    show zW _ _ _ _ _ _ _ _ _ _
    refine z_if_eqF rfl (by decide) (by decide) ?_
    refine z_iload rfl rfl ?_
    refine z_pushI (z := 0) rfl rfl ?_
    refine z_pushI (z := 7) rfl rfl ?_
    refine z_callSi (As := [_, _, _]) (le := [some _, some _, some _]) rfl rfl (Nat.le_of_ble_eq_true rfl) (Nat.le_of_ble_eq_true rfl) rfl ?_
    refine z_iload rfl rfl ?_
    refine z_iload rfl rfl ?_
    refine z_icmp_ltT rfl (by omega) (by decide) (by omega) ?_
    refine z_pushI (z := 0) rfl rfl ?_
    refine z_bret rfl rfl (by decide) ?_
    show zW _ _ _ _ _ _ _ _ _ _
    refine z_if_neF rfl (by decide) (by decide) ?_
    refine z_pushI (z := (-1)) rfl rfl ?_
    refine z_iret rfl rfl ?_
    refine ⟨?_, ?_⟩
    · first | rfl | exact congrArg (fun v => some (zi v)) (by omega) | (exfalso; omega)
    · exact hr
  · refine z_iload rfl rfl ?_
    refine z_pushI (z := 8) rfl rfl ?_
    refine z_icmp_ge rfl (by omega) (by decide) (fun h2 => ?_) (fun h2 => ?_)
    · refine z_pushI (z := 0) rfl rfl ?_
      refine z_bret rfl rfl (by decide) ?_
      show zW _ _ _ _ _ _ _ _ _ _
      refine z_if_neF rfl (by decide) (by decide) ?_
      refine z_pushI (z := (-1)) rfl rfl ?_
      refine z_iret rfl rfl ?_
      refine ⟨_, rfl, ?_⟩
      show zW _ _ _ _ [some (.ref 50), some (zi s), some (zi k)] _ _ _ _ _
      refine z_iload rfl rfl ?_
      refine z_callSi (As := [_]) (le := [some _]) rfl rfl (Nat.le_of_ble_eq_true rfl) (Nat.le_of_ble_eq_true rfl) rfl ?_
      refine z_iload rfl rfl ?_
      refine z_pushI (z := 0) rfl rfl ?_
      refine z_pushI (z := 5) rfl rfl ?_
      refine z_callSi (As := [_, _, _]) (le := [some _, some _, some _]) rfl rfl (Nat.le_of_ble_eq_true rfl) (Nat.le_of_ble_eq_true rfl) rfl ?_
      refine z_iload rfl rfl ?_
      refine z_iload rfl rfl ?_
      refine z_icmp_ltF rfl (by omega) (by decide) (by omega) ?_
      refine z_iload rfl rfl ?_
      refine z_iload rfl rfl ?_
      refine z_icmp_gtF rfl (by omega) (by decide) (by omega) ?_
      refine z_pushI (z := 1) rfl rfl ?_
      refine z_goto rfl ?_
      refine z_bret rfl rfl (by decide) ?_
      show zW _ _ _ _ _ _ _ _ _ _
      refine z_bret rfl rfl (by decide) ?_
      show zW _ _ _ _ _ _ _ _ _ _
      refine z_if_eqF rfl (by decide) (by decide) ?_
      refine z_iload rfl rfl ?_
      refine z_pushI (z := 0) rfl rfl ?_
      refine z_pushI (z := 7) rfl rfl ?_
      refine z_callSi (As := [_, _, _]) (le := [some _, some _, some _]) rfl rfl (Nat.le_of_ble_eq_true rfl) (Nat.le_of_ble_eq_true rfl) rfl ?_
      refine z_iload rfl rfl ?_
      refine z_iload rfl rfl ?_
      refine z_icmp_ltF rfl (by omega) (by decide) (by omega) ?_
      refine z_iload rfl rfl ?_
      refine z_iload rfl rfl ?_
      refine z_icmp_gtT rfl (by omega) (by decide) (by omega) ?_
      refine z_pushI (z := 0) rfl rfl ?_
      refine z_bret rfl rfl (by decide) ?_
      show zW _ _ _ _ _ _ _ _ _ _
      refine z_if_neF rfl (by decide) (by decide) ?_
      refine z_pushI (z := (-1)) rfl rfl ?_
      refine z_iret rfl rfl ?_
      refine ⟨?_, ?_⟩
      · first | rfl | exact congrArg (fun v => some (zi v)) (by omega) | (exfalso; omega)
      · exact hr
    · refine z_pushI (z := 1) rfl rfl ?_
      refine z_goto rfl ?_
      refine z_bret rfl rfl (by decide) ?_
      show zW _ _ _ _ _ _ _ _ _ _
      refine z_if_neT rfl (by decide) (by decide) ?_
      refine z_aload rfl rfl ?_
      refine z_getR (r := 37) rfl rfl (hR _ rm_0_11) ?_
      refine z_iload rfl rfl ?_
      refine z_aald (r := 38 + 2 * s.toNat) rfl rfl (by decide) (by omega) (rr_shelf hR (by omega)) ?_
      refine z_astore rfl rfl ?_
      refine z_aload rfl rfl ?_
      refine z_callVi (As := []) (le := [some _]) rfl rfl (zk_shelf (by omega)) (Nat.le_of_ble_eq_true rfl) (Nat.le_of_ble_eq_true rfl) rfl ?_
      refine z_aload rfl rfl ?_
      refine z_getI (v := 0) rfl (zk_shelf (by omega)) (hh) ?_
      refine z_if_neF rfl (by decide) (by decide) ?_
      refine z_pushI (z := 1) rfl rfl ?_
      refine z_goto rfl ?_
      refine z_bret rfl rfl (by decide) ?_
      show zW _ _ _ _ _ _ _ _ _ _
      refine z_if_eqF rfl (by decide) (by decide) ?_
      refine z_pushI (z := (-11)) rfl rfl ?_
      refine z_iret rfl rfl ?_
      refine ⟨_, rfl, ?_⟩
      show zW _ _ _ _ [some (.ref 50), some (zi s), some (zi k)] _ _ _ _ _
      refine z_iload rfl rfl ?_
      refine z_callSi (As := [_]) (le := [some _]) rfl rfl (Nat.le_of_ble_eq_true rfl) (Nat.le_of_ble_eq_true rfl) rfl ?_
      refine z_iload rfl rfl ?_
      refine z_pushI (z := 0) rfl rfl ?_
      refine z_pushI (z := 5) rfl rfl ?_
      refine z_callSi (As := [_, _, _]) (le := [some _, some _, some _]) rfl rfl (Nat.le_of_ble_eq_true rfl) (Nat.le_of_ble_eq_true rfl) rfl ?_
      refine z_iload rfl rfl ?_
      refine z_iload rfl rfl ?_
      refine z_icmp_ltF rfl (by omega) (by decide) (by omega) ?_
      refine z_iload rfl rfl ?_
      refine z_iload rfl rfl ?_
      refine z_icmp_gtF rfl (by omega) (by decide) (by omega) ?_
      refine z_pushI (z := 1) rfl rfl ?_
      refine z_goto rfl ?_
      refine z_bret rfl rfl (by decide) ?_
      show zW _ _ _ _ _ _ _ _ _ _
      refine z_bret rfl rfl (by decide) ?_
      show zW _ _ _ _ _ _ _ _ _ _
      refine z_if_eqF rfl (by decide) (by decide) ?_
      refine z_iload rfl rfl ?_
      refine z_pushI (z := 0) rfl rfl ?_
      refine z_pushI (z := 7) rfl rfl ?_
      refine z_callSi (As := [_, _, _]) (le := [some _, some _, some _]) rfl rfl (Nat.le_of_ble_eq_true rfl) (Nat.le_of_ble_eq_true rfl) rfl ?_
      refine z_iload rfl rfl ?_
      refine z_iload rfl rfl ?_
      refine z_icmp_ltF rfl (by omega) (by decide) (by omega) ?_
      refine z_iload rfl rfl ?_
      refine z_iload rfl rfl ?_
      refine z_icmp_gtF rfl (by omega) (by decide) (by omega) ?_
      refine z_pushI (z := 1) rfl rfl ?_
      refine z_goto rfl ?_
      refine z_bret rfl rfl (by decide) ?_
      show zW _ _ _ _ _ _ _ _ _ _
      refine z_if_neT rfl (by decide) (by decide) ?_
      refine z_aload rfl rfl ?_
      refine z_getR (r := 83) rfl rfl (hRr _ rm_50_58 (by decide)) ?_
      refine z_iload rfl rfl ?_
      refine z_iald (v := (-1)) rfl rfl (by decide) (by omega) (e83) ?_
      refine z_pushI (z := (-1)) rfl rfl ?_
      refine z_icmp_neF rfl (by decide) (by decide) (by decide) ?_
      refine z_pushI (z := (-11)) rfl rfl ?_
      refine z_iret rfl rfl ?_
      refine ⟨?_, ?_⟩
      · first | rfl | exact congrArg (fun v => some (zi v)) (by omega) | (exfalso; omega)
      · exact hr
theorem st_taken_1 {X : Nat × (Nat → Int32)} {d : Nat} {J M : zA} {R : zR} {s k : Int} (hr : Rel X J M R) (hs : -2147483648 ≤ s ∧ s < 2147483648) (hk : -2147483648 ≤ k ∧ k < 2147483648) (hs6 : 0 ≤ s ∧ s < 6) (hh : J (38 + 2 * s.toNat) 0 = 1) : zW X (d + 20) 141 0 (gEn 141 [(.ref 0), (zi s), (zi k)]) [] J M R (stP X (d + 20) 255 [(zi s), (zi k)]) := by
  have hr0 := hr
  obtain ⟨hR, hG, hY, hD, hP, hC, hAc, hS, hTp, hX, hW⟩ := hr0
  have hRr : zRoR R := zRoR_of hR
  have hA0 := hAc
  obtain ⟨a1, a2, a3, a4, a5, a6⟩ := hA0
  have e83 : J 83 s = J (38 + 2 * s.toNat) 1 := (hS s hs6.1 hs6.2).1.symm.trans (cH_1 hh)
  have s3 : 0 ≤ J (38 + 2 * s.toNat) 2 ∧ J (38 + 2 * s.toNat) 2 ≤ 4 := (hS s hs6.1 hs6.2).2.2.1
  have s4 : 0 ≤ J (38 + 2 * s.toNat) 3 ∧ J (38 + 2 * s.toNat) 3 ≤ 60 := (hS s hs6.1 hs6.2).2.2.2.1
  have s5 : 0 ≤ J (38 + 2 * s.toNat) 1 ∧ J (38 + 2 * s.toNat) 1 < J 34 1 := (hS s hs6.1 hs6.2).2.2.2.2.1 hh
  have h6 := (a5 (J (38 + 2 * s.toNat) 1) s5.1 s5.2).2
  show zW _ _ _ _ [some (.ref 0), some (zi s), some (zi k), none, none] _ _ _ _ _
  refine z_iload rfl rfl ?_
  refine z_callSi (As := [_]) (le := [some _]) rfl rfl (Nat.le_of_ble_eq_true rfl) (Nat.le_of_ble_eq_true rfl) rfl ?_
  refine z_iload rfl rfl ?_
  refine z_if_ltF rfl (by omega) (by omega) ?_
  refine z_iload rfl rfl ?_
  refine z_pushI (z := 6) rfl rfl ?_
  refine z_icmp_geF rfl (by omega) (by decide) (by omega) ?_
  refine z_pushI (z := 1) rfl rfl ?_
  refine z_goto rfl ?_
  refine z_bret rfl rfl (by decide) ?_
  show zW _ _ _ _ _ _ _ _ _ _
  refine z_if_eqF rfl (by decide) (by decide) ?_
  refine z_iload rfl rfl ?_
  refine z_callSi (As := [_]) (le := [some _]) rfl rfl (Nat.le_of_ble_eq_true rfl) (Nat.le_of_ble_eq_true rfl) rfl ?_
  refine z_iload rfl rfl ?_
  refine z_if_lt rfl (by omega) (fun h1 => ?_) (fun h1 => ?_)
  · refine z_pushI (z := 0) rfl rfl ?_
    refine z_bret rfl rfl (by decide) ?_
    show zW _ _ _ _ _ _ _ _ _ _
    refine z_if_neF rfl (by decide) (by decide) ?_
    refine z_pushI (z := (-1)) rfl rfl ?_
    refine z_iret rfl rfl ?_
    refine ⟨_, rfl, ?_⟩
    show zW _ _ _ _ [some (.ref 50), some (zi s), some (zi k)] _ _ _ _ _
    refine z_iload rfl rfl ?_
    refine z_callSi (As := [_]) (le := [some _]) rfl rfl (Nat.le_of_ble_eq_true rfl) (Nat.le_of_ble_eq_true rfl) rfl ?_
    refine z_iload rfl rfl ?_
    refine z_pushI (z := 0) rfl rfl ?_
    refine z_pushI (z := 5) rfl rfl ?_
    refine z_callSi (As := [_, _, _]) (le := [some _, some _, some _]) rfl rfl (Nat.le_of_ble_eq_true rfl) (Nat.le_of_ble_eq_true rfl) rfl ?_
    refine z_iload rfl rfl ?_
    refine z_iload rfl rfl ?_
    refine z_icmp_ltF rfl (by omega) (by decide) (by omega) ?_
    refine z_iload rfl rfl ?_
    refine z_iload rfl rfl ?_
    refine z_icmp_gtF rfl (by omega) (by decide) (by omega) ?_
    refine z_pushI (z := 1) rfl rfl ?_
    refine z_goto rfl ?_
    refine z_bret rfl rfl (by decide) ?_
    show zW _ _ _ _ _ _ _ _ _ _
    refine z_bret rfl rfl (by decide) ?_
    show zW _ _ _ _ _ _ _ _ _ _
    refine z_if_eqF rfl (by decide) (by decide) ?_
    refine z_iload rfl rfl ?_
    refine z_pushI (z := 0) rfl rfl ?_
    refine z_pushI (z := 7) rfl rfl ?_
    refine z_callSi (As := [_, _, _]) (le := [some _, some _, some _]) rfl rfl (Nat.le_of_ble_eq_true rfl) (Nat.le_of_ble_eq_true rfl) rfl ?_
    refine z_iload rfl rfl ?_
    refine z_iload rfl rfl ?_
    refine z_icmp_ltT rfl (by omega) (by decide) (by omega) ?_
    refine z_pushI (z := 0) rfl rfl ?_
    refine z_bret rfl rfl (by decide) ?_
    show zW _ _ _ _ _ _ _ _ _ _
    refine z_if_neF rfl (by decide) (by decide) ?_
    refine z_pushI (z := (-1)) rfl rfl ?_
    refine z_iret rfl rfl ?_
    refine ⟨?_, ?_⟩
    · first | rfl | exact congrArg (fun v => some (zi v)) (by omega) | (exfalso; omega)
    · exact hr
  · refine z_iload rfl rfl ?_
    refine z_pushI (z := 8) rfl rfl ?_
    refine z_icmp_ge rfl (by omega) (by decide) (fun h2 => ?_) (fun h2 => ?_)
    · refine z_pushI (z := 0) rfl rfl ?_
      refine z_bret rfl rfl (by decide) ?_
      show zW _ _ _ _ _ _ _ _ _ _
      refine z_if_neF rfl (by decide) (by decide) ?_
      refine z_pushI (z := (-1)) rfl rfl ?_
      refine z_iret rfl rfl ?_
      refine ⟨_, rfl, ?_⟩
      show zW _ _ _ _ [some (.ref 50), some (zi s), some (zi k)] _ _ _ _ _
      refine z_iload rfl rfl ?_
      refine z_callSi (As := [_]) (le := [some _]) rfl rfl (Nat.le_of_ble_eq_true rfl) (Nat.le_of_ble_eq_true rfl) rfl ?_
      refine z_iload rfl rfl ?_
      refine z_pushI (z := 0) rfl rfl ?_
      refine z_pushI (z := 5) rfl rfl ?_
      refine z_callSi (As := [_, _, _]) (le := [some _, some _, some _]) rfl rfl (Nat.le_of_ble_eq_true rfl) (Nat.le_of_ble_eq_true rfl) rfl ?_
      refine z_iload rfl rfl ?_
      refine z_iload rfl rfl ?_
      refine z_icmp_ltF rfl (by omega) (by decide) (by omega) ?_
      refine z_iload rfl rfl ?_
      refine z_iload rfl rfl ?_
      refine z_icmp_gtF rfl (by omega) (by decide) (by omega) ?_
      refine z_pushI (z := 1) rfl rfl ?_
      refine z_goto rfl ?_
      refine z_bret rfl rfl (by decide) ?_
      show zW _ _ _ _ _ _ _ _ _ _
      refine z_bret rfl rfl (by decide) ?_
      show zW _ _ _ _ _ _ _ _ _ _
      refine z_if_eqF rfl (by decide) (by decide) ?_
      refine z_iload rfl rfl ?_
      refine z_pushI (z := 0) rfl rfl ?_
      refine z_pushI (z := 7) rfl rfl ?_
      refine z_callSi (As := [_, _, _]) (le := [some _, some _, some _]) rfl rfl (Nat.le_of_ble_eq_true rfl) (Nat.le_of_ble_eq_true rfl) rfl ?_
      refine z_iload rfl rfl ?_
      refine z_iload rfl rfl ?_
      refine z_icmp_ltF rfl (by omega) (by decide) (by omega) ?_
      refine z_iload rfl rfl ?_
      refine z_iload rfl rfl ?_
      refine z_icmp_gtT rfl (by omega) (by decide) (by omega) ?_
      refine z_pushI (z := 0) rfl rfl ?_
      refine z_bret rfl rfl (by decide) ?_
      show zW _ _ _ _ _ _ _ _ _ _
      refine z_if_neF rfl (by decide) (by decide) ?_
      refine z_pushI (z := (-1)) rfl rfl ?_
      refine z_iret rfl rfl ?_
      refine ⟨?_, ?_⟩
      · first | rfl | exact congrArg (fun v => some (zi v)) (by omega) | (exfalso; omega)
      · exact hr
    · refine z_pushI (z := 1) rfl rfl ?_
      refine z_goto rfl ?_
      refine z_bret rfl rfl (by decide) ?_
      show zW _ _ _ _ _ _ _ _ _ _
      refine z_if_neT rfl (by decide) (by decide) ?_
      refine z_aload rfl rfl ?_
      refine z_getR (r := 37) rfl rfl (hR _ rm_0_11) ?_
      refine z_iload rfl rfl ?_
      refine z_aald (r := 38 + 2 * s.toNat) rfl rfl (by decide) (by omega) (rr_shelf hR (by omega)) ?_
      refine z_astore rfl rfl ?_
      refine z_aload rfl rfl ?_
      refine z_callVi (As := []) (le := [some _]) rfl rfl (zk_shelf (by omega)) (Nat.le_of_ble_eq_true rfl) (Nat.le_of_ble_eq_true rfl) rfl ?_
      refine z_aload rfl rfl ?_
      refine z_getI (v := 1) rfl (zk_shelf (by omega)) (hh) ?_
      refine z_if_neT rfl (by decide) (by decide) ?_
      refine z_pushI (z := 0) rfl rfl ?_
      refine z_bret rfl rfl (by decide) ?_
      show zW _ _ _ _ _ _ _ _ _ _
      refine z_if_eqT rfl (by decide) (by decide) ?_
      refine z_aload rfl rfl ?_
      refine z_callVi (As := []) (le := [some _]) rfl rfl (zk_shelf (by omega)) (Nat.le_of_ble_eq_true rfl) (Nat.le_of_ble_eq_true rfl) rfl ?_
      refine z_aload rfl rfl ?_
      refine z_getI (v := 1) rfl (zk_shelf (by omega)) (hh) ?_
      refine z_pushI (z := 1) rfl rfl ?_
      refine z_icmp_neF rfl (by decide) (by decide) (by decide) ?_
      refine z_pushI (z := 1) rfl rfl ?_
      refine z_goto rfl ?_
      refine z_bret rfl rfl (by decide) ?_
      show zW _ _ _ _ _ _ _ _ _ _
      refine z_if_neT rfl (by decide) (by decide) ?_
      refine z_aload rfl rfl ?_
      refine z_getR (r := 34) rfl rfl (hR _ rm_0_10) ?_
      refine z_aload rfl rfl ?_
      refine z_getI (v := J (38 + 2 * s.toNat) 1) rfl (zk_shelf (by omega)) (rfl) ?_
      refine z_callVi (As := [_]) (le := [some _, some _]) rfl rfl rfl (Nat.le_of_ble_eq_true rfl) (Nat.le_of_ble_eq_true rfl) rfl ?_
      refine z_aload rfl rfl ?_
      refine z_iload rfl rfl ?_
      refine z_callVi (As := [_]) (le := [some _, some _]) rfl rfl rfl (Nat.le_of_ble_eq_true rfl) (Nat.le_of_ble_eq_true rfl) rfl ?_
      refine z_iload rfl rfl ?_
      refine z_if_lt rfl (by omega) (fun h3 => ?_) (fun h3 => ?_)
      · refine z_pushI (z := 0) rfl rfl ?_
        refine z_bret rfl rfl (by decide) ?_
        show zW _ _ _ _ _ _ _ _ _ _
        refine z_if_eqT rfl (by decide) (by decide) ?_
        refine z_pushI (z := (-1)) rfl rfl ?_
        refine z_iret rfl rfl ?_
        show zW _ _ _ _ _ _ _ _ _ _
        refine z_istore rfl rfl ?_
        refine z_iload rfl rfl ?_
        refine z_iload rfl rfl ?_
        refine z_callSP (As := [_, _]) (v := uu (-1) k) rfl rfl (Nat.le_of_ble_eq_true rfl) (Nat.le_of_ble_eq_true rfl) (underC (by omega) (by omega)) ?_
        have q4 := @uu_r (-1) k
        refine z_if_eq rfl (by omega) (fun h5 => ?_) (fun h5 => ?_)
        · refine z_pushI (z := (-12)) rfl rfl ?_
          refine z_iret rfl rfl ?_
          refine ⟨_, rfl, ?_⟩
          show zW _ _ _ _ [some (.ref 50), some (zi s), some (zi k)] _ _ _ _ _
          refine z_iload rfl rfl ?_
          refine z_callSi (As := [_]) (le := [some _]) rfl rfl (Nat.le_of_ble_eq_true rfl) (Nat.le_of_ble_eq_true rfl) rfl ?_
          refine z_iload rfl rfl ?_
          refine z_pushI (z := 0) rfl rfl ?_
          refine z_pushI (z := 5) rfl rfl ?_
          refine z_callSi (As := [_, _, _]) (le := [some _, some _, some _]) rfl rfl (Nat.le_of_ble_eq_true rfl) (Nat.le_of_ble_eq_true rfl) rfl ?_
          refine z_iload rfl rfl ?_
          refine z_iload rfl rfl ?_
          refine z_icmp_ltF rfl (by omega) (by decide) (by omega) ?_
          refine z_iload rfl rfl ?_
          refine z_iload rfl rfl ?_
          refine z_icmp_gtF rfl (by omega) (by decide) (by omega) ?_
          refine z_pushI (z := 1) rfl rfl ?_
          refine z_goto rfl ?_
          refine z_bret rfl rfl (by decide) ?_
          show zW _ _ _ _ _ _ _ _ _ _
          refine z_bret rfl rfl (by decide) ?_
          show zW _ _ _ _ _ _ _ _ _ _
          refine z_if_eqF rfl (by decide) (by decide) ?_
          refine z_iload rfl rfl ?_
          refine z_pushI (z := 0) rfl rfl ?_
          refine z_pushI (z := 7) rfl rfl ?_
          refine z_callSi (As := [_, _, _]) (le := [some _, some _, some _]) rfl rfl (Nat.le_of_ble_eq_true rfl) (Nat.le_of_ble_eq_true rfl) rfl ?_
          refine z_iload rfl rfl ?_
          refine z_iload rfl rfl ?_
          refine z_icmp_ltF rfl (by omega) (by decide) (by omega) ?_
          refine z_iload rfl rfl ?_
          refine z_iload rfl rfl ?_
          refine z_icmp_gtF rfl (by omega) (by decide) (by omega) ?_
          refine z_pushI (z := 1) rfl rfl ?_
          refine z_goto rfl ?_
          refine z_bret rfl rfl (by decide) ?_
          show zW _ _ _ _ _ _ _ _ _ _
          refine z_if_neT rfl (by decide) (by decide) ?_
          refine z_aload rfl rfl ?_
          refine z_getR (r := 83) rfl rfl (hRr _ rm_50_58 (by decide)) ?_
          refine z_iload rfl rfl ?_
          refine z_iald (v := J (38 + 2 * s.toNat) 1) rfl rfl (by decide) (by omega) (e83) ?_
          refine z_pushI (z := (-1)) rfl rfl ?_
          refine z_icmp_ne rfl (by omega) (by decide) (fun h6 => ?_) (fun h6 => ?_)
          · refine z_aload rfl rfl ?_
            refine z_getR (r := 83) rfl rfl (hRr _ rm_50_58 (by decide)) ?_
            refine z_iload rfl rfl ?_
            refine z_iald (v := J (38 + 2 * s.toNat) 1) rfl rfl (by decide) (by omega) (e83) ?_
            refine z_if_ltT rfl (by omega) (by omega) ?_
            refine z_pushI (z := (-12)) rfl rfl ?_
            refine z_iret rfl rfl ?_
            refine ⟨?_, ?_⟩
            · first | rfl | exact congrArg (fun v => some (zi v)) (by omega) | (exfalso; omega)
            · exact hr
          · refine z_pushI (z := (-11)) rfl rfl ?_
            refine z_iret rfl rfl ?_
            refine ⟨?_, ?_⟩
            · first | rfl | exact congrArg (fun v => some (zi v)) (by omega) | (exfalso; omega)
            · exact hr
        · refine z_iload rfl rfl ?_
          refine z_goto rfl ?_
          refine z_iret rfl rfl ?_
          refine ⟨_, rfl, ?_⟩
          show zW _ _ _ _ [some (.ref 50), some (zi s), some (zi k)] _ _ _ _ _
          refine z_iload rfl rfl ?_
          refine z_callSi (As := [_]) (le := [some _]) rfl rfl (Nat.le_of_ble_eq_true rfl) (Nat.le_of_ble_eq_true rfl) rfl ?_
          refine z_iload rfl rfl ?_
          refine z_pushI (z := 0) rfl rfl ?_
          refine z_pushI (z := 5) rfl rfl ?_
          refine z_callSi (As := [_, _, _]) (le := [some _, some _, some _]) rfl rfl (Nat.le_of_ble_eq_true rfl) (Nat.le_of_ble_eq_true rfl) rfl ?_
          refine z_iload rfl rfl ?_
          refine z_iload rfl rfl ?_
          refine z_icmp_ltF rfl (by omega) (by decide) (by omega) ?_
          refine z_iload rfl rfl ?_
          refine z_iload rfl rfl ?_
          refine z_icmp_gtF rfl (by omega) (by decide) (by omega) ?_
          refine z_pushI (z := 1) rfl rfl ?_
          refine z_goto rfl ?_
          refine z_bret rfl rfl (by decide) ?_
          show zW _ _ _ _ _ _ _ _ _ _
          refine z_bret rfl rfl (by decide) ?_
          show zW _ _ _ _ _ _ _ _ _ _
          refine z_if_eqF rfl (by decide) (by decide) ?_
          refine z_iload rfl rfl ?_
          refine z_pushI (z := 0) rfl rfl ?_
          refine z_pushI (z := 7) rfl rfl ?_
          refine z_callSi (As := [_, _, _]) (le := [some _, some _, some _]) rfl rfl (Nat.le_of_ble_eq_true rfl) (Nat.le_of_ble_eq_true rfl) rfl ?_
          refine z_iload rfl rfl ?_
          refine z_iload rfl rfl ?_
          refine z_icmp_ltF rfl (by omega) (by decide) (by omega) ?_
          refine z_iload rfl rfl ?_
          refine z_iload rfl rfl ?_
          refine z_icmp_gtF rfl (by omega) (by decide) (by omega) ?_
          refine z_pushI (z := 1) rfl rfl ?_
          refine z_goto rfl ?_
          refine z_bret rfl rfl (by decide) ?_
          show zW _ _ _ _ _ _ _ _ _ _
          refine z_if_neT rfl (by decide) (by decide) ?_
          refine z_aload rfl rfl ?_
          refine z_getR (r := 83) rfl rfl (hRr _ rm_50_58 (by decide)) ?_
          refine z_iload rfl rfl ?_
          refine z_iald (v := J (38 + 2 * s.toNat) 1) rfl rfl (by decide) (by omega) (e83) ?_
          refine z_pushI (z := (-1)) rfl rfl ?_
          refine z_icmp_ne rfl (by omega) (by decide) (fun h6 => ?_) (fun h6 => ?_)
          · refine z_aload rfl rfl ?_
            refine z_getR (r := 83) rfl rfl (hRr _ rm_50_58 (by decide)) ?_
            refine z_iload rfl rfl ?_
            refine z_iald (v := J (38 + 2 * s.toNat) 1) rfl rfl (by decide) (by omega) (e83) ?_
            refine z_if_ltT rfl (by omega) (by omega) ?_
            refine z_pushI (z := (-12)) rfl rfl ?_
            refine z_iret rfl rfl ?_
            refine ⟨?_, ?_⟩
            · first | rfl | exact congrArg (fun v => some (zi v)) (by omega) | (exfalso; omega)
            · exact hr
          · refine z_pushI (z := (-11)) rfl rfl ?_
            refine z_iret rfl rfl ?_
            refine ⟨?_, ?_⟩
            · first | rfl | exact congrArg (fun v => some (zi v)) (by omega) | (exfalso; omega)
            · exact hr
      · refine z_iload rfl rfl ?_
        refine z_aload rfl rfl ?_
        refine z_getI (v := J 34 1) rfl rfl (rfl) ?_
        refine z_icmp_ge rfl (by omega) (by omega) (fun h6 => ?_) (fun h6 => ?_)
        · refine z_pushI (z := 0) rfl rfl ?_
          refine z_bret rfl rfl (by decide) ?_
          show zW _ _ _ _ _ _ _ _ _ _
          refine z_if_eqT rfl (by decide) (by decide) ?_
          refine z_pushI (z := (-1)) rfl rfl ?_
          refine z_iret rfl rfl ?_
          show zW _ _ _ _ _ _ _ _ _ _
          refine z_istore rfl rfl ?_
          refine z_iload rfl rfl ?_
          refine z_iload rfl rfl ?_
          refine z_callSP (As := [_, _]) (v := uu (-1) k) rfl rfl (Nat.le_of_ble_eq_true rfl) (Nat.le_of_ble_eq_true rfl) (underC (by omega) (by omega)) ?_
          have q7 := @uu_r (-1) k
          refine z_if_eq rfl (by omega) (fun h8 => ?_) (fun h8 => ?_)
          · refine z_pushI (z := (-12)) rfl rfl ?_
            refine z_iret rfl rfl ?_
            refine ⟨_, rfl, ?_⟩
            show zW _ _ _ _ [some (.ref 50), some (zi s), some (zi k)] _ _ _ _ _
            refine z_iload rfl rfl ?_
            refine z_callSi (As := [_]) (le := [some _]) rfl rfl (Nat.le_of_ble_eq_true rfl) (Nat.le_of_ble_eq_true rfl) rfl ?_
            refine z_iload rfl rfl ?_
            refine z_pushI (z := 0) rfl rfl ?_
            refine z_pushI (z := 5) rfl rfl ?_
            refine z_callSi (As := [_, _, _]) (le := [some _, some _, some _]) rfl rfl (Nat.le_of_ble_eq_true rfl) (Nat.le_of_ble_eq_true rfl) rfl ?_
            refine z_iload rfl rfl ?_
            refine z_iload rfl rfl ?_
            refine z_icmp_ltF rfl (by omega) (by decide) (by omega) ?_
            refine z_iload rfl rfl ?_
            refine z_iload rfl rfl ?_
            refine z_icmp_gtF rfl (by omega) (by decide) (by omega) ?_
            refine z_pushI (z := 1) rfl rfl ?_
            refine z_goto rfl ?_
            refine z_bret rfl rfl (by decide) ?_
            show zW _ _ _ _ _ _ _ _ _ _
            refine z_bret rfl rfl (by decide) ?_
            show zW _ _ _ _ _ _ _ _ _ _
            refine z_if_eqF rfl (by decide) (by decide) ?_
            refine z_iload rfl rfl ?_
            refine z_pushI (z := 0) rfl rfl ?_
            refine z_pushI (z := 7) rfl rfl ?_
            refine z_callSi (As := [_, _, _]) (le := [some _, some _, some _]) rfl rfl (Nat.le_of_ble_eq_true rfl) (Nat.le_of_ble_eq_true rfl) rfl ?_
            refine z_iload rfl rfl ?_
            refine z_iload rfl rfl ?_
            refine z_icmp_ltF rfl (by omega) (by decide) (by omega) ?_
            refine z_iload rfl rfl ?_
            refine z_iload rfl rfl ?_
            refine z_icmp_gtF rfl (by omega) (by decide) (by omega) ?_
            refine z_pushI (z := 1) rfl rfl ?_
            refine z_goto rfl ?_
            refine z_bret rfl rfl (by decide) ?_
            show zW _ _ _ _ _ _ _ _ _ _
            refine z_if_neT rfl (by decide) (by decide) ?_
            refine z_aload rfl rfl ?_
            refine z_getR (r := 83) rfl rfl (hRr _ rm_50_58 (by decide)) ?_
            refine z_iload rfl rfl ?_
            refine z_iald (v := J (38 + 2 * s.toNat) 1) rfl rfl (by decide) (by omega) (e83) ?_
            refine z_pushI (z := (-1)) rfl rfl ?_
            refine z_icmp_neT rfl (by omega) (by decide) (by omega) ?_
            refine z_aload rfl rfl ?_
            refine z_getR (r := 83) rfl rfl (hRr _ rm_50_58 (by decide)) ?_
            refine z_iload rfl rfl ?_
            refine z_iald (v := J (38 + 2 * s.toNat) 1) rfl rfl (by decide) (by omega) (e83) ?_
            refine z_if_ltF rfl (by omega) (by omega) ?_
            refine z_aload rfl rfl ?_
            refine z_getR (r := 81) rfl rfl (hRr _ rm_50_55 (by decide)) ?_
            refine z_aload rfl rfl ?_
            refine z_getR (r := 83) rfl rfl (hRr _ rm_50_58 (by decide)) ?_
            refine z_iload rfl rfl ?_
            refine z_iald (v := J (38 + 2 * s.toNat) 1) rfl rfl (by decide) (by omega) (e83) ?_
            refine z_iald (v := J 35 (J (38 + 2 * s.toNat) 1)) rfl rfl (by decide) (by omega) ((a5 _ (by omega) (by omega)).1.symm) ?_
            refine z_iload rfl rfl ?_
            refine z_callSP (As := [_, _]) (v := uu (J 35 (J (38 + 2 * s.toNat) 1)) k) rfl rfl (Nat.le_of_ble_eq_true rfl) (Nat.le_of_ble_eq_true rfl) (underR (by omega) (by omega)) ?_
            have q9 := @uu_r (J 35 (J (38 + 2 * s.toNat) 1)) k
            refine z_if_eq rfl (by omega) (fun h10 => ?_) (fun h10 => ?_)
            · refine z_pushI (z := (-12)) rfl rfl ?_
              refine z_iret rfl rfl ?_
              refine ⟨?_, ?_⟩
              · first | rfl | exact congrArg (fun v => some (zi v)) (by omega) | (exfalso; omega)
              · exact hr
            · refine z_aload rfl rfl ?_
              refine z_getR (r := 81) rfl rfl (hRr _ rm_50_55 (by decide)) ?_
              refine z_aload rfl rfl ?_
              refine z_getR (r := 83) rfl rfl (hRr _ rm_50_58 (by decide)) ?_
              refine z_iload rfl rfl ?_
              refine z_iald (v := J (38 + 2 * s.toNat) 1) rfl rfl (by decide) (by omega) (e83) ?_
              refine z_iald (v := J 35 (J (38 + 2 * s.toNat) 1)) rfl rfl (by decide) (by omega) ((a5 _ (by omega) (by omega)).1.symm) ?_
              refine z_goto rfl ?_
              refine z_iret rfl rfl ?_
              refine ⟨?_, ?_⟩
              · first | rfl | exact congrArg (fun v => some (zi v)) (by omega) | (exfalso; omega)
              · exact hr
          · refine z_iload rfl rfl ?_
            refine z_goto rfl ?_
            refine z_iret rfl rfl ?_
            refine ⟨_, rfl, ?_⟩
            show zW _ _ _ _ [some (.ref 50), some (zi s), some (zi k)] _ _ _ _ _
            refine z_iload rfl rfl ?_
            refine z_callSi (As := [_]) (le := [some _]) rfl rfl (Nat.le_of_ble_eq_true rfl) (Nat.le_of_ble_eq_true rfl) rfl ?_
            refine z_iload rfl rfl ?_
            refine z_pushI (z := 0) rfl rfl ?_
            refine z_pushI (z := 5) rfl rfl ?_
            refine z_callSi (As := [_, _, _]) (le := [some _, some _, some _]) rfl rfl (Nat.le_of_ble_eq_true rfl) (Nat.le_of_ble_eq_true rfl) rfl ?_
            refine z_iload rfl rfl ?_
            refine z_iload rfl rfl ?_
            refine z_icmp_ltF rfl (by omega) (by decide) (by omega) ?_
            refine z_iload rfl rfl ?_
            refine z_iload rfl rfl ?_
            refine z_icmp_gtF rfl (by omega) (by decide) (by omega) ?_
            refine z_pushI (z := 1) rfl rfl ?_
            refine z_goto rfl ?_
            refine z_bret rfl rfl (by decide) ?_
            show zW _ _ _ _ _ _ _ _ _ _
            refine z_bret rfl rfl (by decide) ?_
            show zW _ _ _ _ _ _ _ _ _ _
            refine z_if_eqF rfl (by decide) (by decide) ?_
            refine z_iload rfl rfl ?_
            refine z_pushI (z := 0) rfl rfl ?_
            refine z_pushI (z := 7) rfl rfl ?_
            refine z_callSi (As := [_, _, _]) (le := [some _, some _, some _]) rfl rfl (Nat.le_of_ble_eq_true rfl) (Nat.le_of_ble_eq_true rfl) rfl ?_
            refine z_iload rfl rfl ?_
            refine z_iload rfl rfl ?_
            refine z_icmp_ltF rfl (by omega) (by decide) (by omega) ?_
            refine z_iload rfl rfl ?_
            refine z_iload rfl rfl ?_
            refine z_icmp_gtF rfl (by omega) (by decide) (by omega) ?_
            refine z_pushI (z := 1) rfl rfl ?_
            refine z_goto rfl ?_
            refine z_bret rfl rfl (by decide) ?_
            show zW _ _ _ _ _ _ _ _ _ _
            refine z_if_neT rfl (by decide) (by decide) ?_
            refine z_aload rfl rfl ?_
            refine z_getR (r := 83) rfl rfl (hRr _ rm_50_58 (by decide)) ?_
            refine z_iload rfl rfl ?_
            refine z_iald (v := J (38 + 2 * s.toNat) 1) rfl rfl (by decide) (by omega) (e83) ?_
            refine z_pushI (z := (-1)) rfl rfl ?_
            refine z_icmp_neT rfl (by omega) (by decide) (by omega) ?_
            refine z_aload rfl rfl ?_
            refine z_getR (r := 83) rfl rfl (hRr _ rm_50_58 (by decide)) ?_
            refine z_iload rfl rfl ?_
            refine z_iald (v := J (38 + 2 * s.toNat) 1) rfl rfl (by decide) (by omega) (e83) ?_
            refine z_if_ltF rfl (by omega) (by omega) ?_
            refine z_aload rfl rfl ?_
            refine z_getR (r := 81) rfl rfl (hRr _ rm_50_55 (by decide)) ?_
            refine z_aload rfl rfl ?_
            refine z_getR (r := 83) rfl rfl (hRr _ rm_50_58 (by decide)) ?_
            refine z_iload rfl rfl ?_
            refine z_iald (v := J (38 + 2 * s.toNat) 1) rfl rfl (by decide) (by omega) (e83) ?_
            refine z_iald (v := J 35 (J (38 + 2 * s.toNat) 1)) rfl rfl (by decide) (by omega) ((a5 _ (by omega) (by omega)).1.symm) ?_
            refine z_iload rfl rfl ?_
            refine z_callSP (As := [_, _]) (v := uu (J 35 (J (38 + 2 * s.toNat) 1)) k) rfl rfl (Nat.le_of_ble_eq_true rfl) (Nat.le_of_ble_eq_true rfl) (underR (by omega) (by omega)) ?_
            have q9 := @uu_r (J 35 (J (38 + 2 * s.toNat) 1)) k
            refine z_if_eq rfl (by omega) (fun h10 => ?_) (fun h10 => ?_)
            · refine z_pushI (z := (-12)) rfl rfl ?_
              refine z_iret rfl rfl ?_
              refine ⟨?_, ?_⟩
              · first | rfl | exact congrArg (fun v => some (zi v)) (by omega) | (exfalso; omega)
              · exact hr
            · refine z_aload rfl rfl ?_
              refine z_getR (r := 81) rfl rfl (hRr _ rm_50_55 (by decide)) ?_
              refine z_aload rfl rfl ?_
              refine z_getR (r := 83) rfl rfl (hRr _ rm_50_58 (by decide)) ?_
              refine z_iload rfl rfl ?_
              refine z_iald (v := J (38 + 2 * s.toNat) 1) rfl rfl (by decide) (by omega) (e83) ?_
              refine z_iald (v := J 35 (J (38 + 2 * s.toNat) 1)) rfl rfl (by decide) (by omega) ((a5 _ (by omega) (by omega)).1.symm) ?_
              refine z_goto rfl ?_
              refine z_iret rfl rfl ?_
              refine ⟨?_, ?_⟩
              · first | rfl | exact congrArg (fun v => some (zi v)) (by omega) | (exfalso; omega)
              · exact hr
        · refine z_pushI (z := 1) rfl rfl ?_
          refine z_goto rfl ?_
          refine z_bret rfl rfl (by decide) ?_
          show zW _ _ _ _ _ _ _ _ _ _
          refine z_if_eqF rfl (by decide) (by decide) ?_
          refine z_aload rfl rfl ?_
          refine z_getR (r := 35) rfl rfl (hR _ rm_34_0) ?_
          refine z_iload rfl rfl ?_
          refine z_iald (v := J 35 (J (38 + 2 * s.toNat) 1)) rfl rfl (by decide) (by omega) (rfl) ?_
          refine z_goto rfl ?_
          refine z_iret rfl rfl ?_
          show zW _ _ _ _ _ _ _ _ _ _
          refine z_istore rfl rfl ?_
          refine z_iload rfl rfl ?_
          refine z_iload rfl rfl ?_
          refine z_callSP (As := [_, _]) (v := uu (J 35 (J (38 + 2 * s.toNat) 1)) k) rfl rfl (Nat.le_of_ble_eq_true rfl) (Nat.le_of_ble_eq_true rfl) (underC (by omega) (by omega)) ?_
          have q9 := @uu_r (J 35 (J (38 + 2 * s.toNat) 1)) k
          refine z_if_eq rfl (by omega) (fun h10 => ?_) (fun h10 => ?_)
          · refine z_pushI (z := (-12)) rfl rfl ?_
            refine z_iret rfl rfl ?_
            refine ⟨_, rfl, ?_⟩
            show zW _ _ _ _ [some (.ref 50), some (zi s), some (zi k)] _ _ _ _ _
            refine z_iload rfl rfl ?_
            refine z_callSi (As := [_]) (le := [some _]) rfl rfl (Nat.le_of_ble_eq_true rfl) (Nat.le_of_ble_eq_true rfl) rfl ?_
            refine z_iload rfl rfl ?_
            refine z_pushI (z := 0) rfl rfl ?_
            refine z_pushI (z := 5) rfl rfl ?_
            refine z_callSi (As := [_, _, _]) (le := [some _, some _, some _]) rfl rfl (Nat.le_of_ble_eq_true rfl) (Nat.le_of_ble_eq_true rfl) rfl ?_
            refine z_iload rfl rfl ?_
            refine z_iload rfl rfl ?_
            refine z_icmp_ltF rfl (by omega) (by decide) (by omega) ?_
            refine z_iload rfl rfl ?_
            refine z_iload rfl rfl ?_
            refine z_icmp_gtF rfl (by omega) (by decide) (by omega) ?_
            refine z_pushI (z := 1) rfl rfl ?_
            refine z_goto rfl ?_
            refine z_bret rfl rfl (by decide) ?_
            show zW _ _ _ _ _ _ _ _ _ _
            refine z_bret rfl rfl (by decide) ?_
            show zW _ _ _ _ _ _ _ _ _ _
            refine z_if_eqF rfl (by decide) (by decide) ?_
            refine z_iload rfl rfl ?_
            refine z_pushI (z := 0) rfl rfl ?_
            refine z_pushI (z := 7) rfl rfl ?_
            refine z_callSi (As := [_, _, _]) (le := [some _, some _, some _]) rfl rfl (Nat.le_of_ble_eq_true rfl) (Nat.le_of_ble_eq_true rfl) rfl ?_
            refine z_iload rfl rfl ?_
            refine z_iload rfl rfl ?_
            refine z_icmp_ltF rfl (by omega) (by decide) (by omega) ?_
            refine z_iload rfl rfl ?_
            refine z_iload rfl rfl ?_
            refine z_icmp_gtF rfl (by omega) (by decide) (by omega) ?_
            refine z_pushI (z := 1) rfl rfl ?_
            refine z_goto rfl ?_
            refine z_bret rfl rfl (by decide) ?_
            show zW _ _ _ _ _ _ _ _ _ _
            refine z_if_neT rfl (by decide) (by decide) ?_
            refine z_aload rfl rfl ?_
            refine z_getR (r := 83) rfl rfl (hRr _ rm_50_58 (by decide)) ?_
            refine z_iload rfl rfl ?_
            refine z_iald (v := J (38 + 2 * s.toNat) 1) rfl rfl (by decide) (by omega) (e83) ?_
            refine z_pushI (z := (-1)) rfl rfl ?_
            refine z_icmp_neT rfl (by omega) (by decide) (by omega) ?_
            refine z_aload rfl rfl ?_
            refine z_getR (r := 83) rfl rfl (hRr _ rm_50_58 (by decide)) ?_
            refine z_iload rfl rfl ?_
            refine z_iald (v := J (38 + 2 * s.toNat) 1) rfl rfl (by decide) (by omega) (e83) ?_
            refine z_if_ltF rfl (by omega) (by omega) ?_
            refine z_aload rfl rfl ?_
            refine z_getR (r := 81) rfl rfl (hRr _ rm_50_55 (by decide)) ?_
            refine z_aload rfl rfl ?_
            refine z_getR (r := 83) rfl rfl (hRr _ rm_50_58 (by decide)) ?_
            refine z_iload rfl rfl ?_
            refine z_iald (v := J (38 + 2 * s.toNat) 1) rfl rfl (by decide) (by omega) (e83) ?_
            refine z_iald (v := J 35 (J (38 + 2 * s.toNat) 1)) rfl rfl (by decide) (by omega) ((a5 _ (by omega) (by omega)).1.symm) ?_
            refine z_iload rfl rfl ?_
            refine z_callSP (As := [_, _]) (v := uu (J 35 (J (38 + 2 * s.toNat) 1)) k) rfl rfl (Nat.le_of_ble_eq_true rfl) (Nat.le_of_ble_eq_true rfl) (underR (by omega) (by omega)) ?_
            have q11 := @uu_r (J 35 (J (38 + 2 * s.toNat) 1)) k
            refine z_if_eqT rfl (by omega) (by omega) ?_
            refine z_pushI (z := (-12)) rfl rfl ?_
            refine z_iret rfl rfl ?_
            refine ⟨?_, ?_⟩
            · first | rfl | exact congrArg (fun v => some (zi v)) (by omega) | (exfalso; omega)
            · exact hr
          · refine z_iload rfl rfl ?_
            refine z_goto rfl ?_
            refine z_iret rfl rfl ?_
            refine ⟨_, rfl, ?_⟩
            show zW _ _ _ _ [some (.ref 50), some (zi s), some (zi k)] _ _ _ _ _
            refine z_iload rfl rfl ?_
            refine z_callSi (As := [_]) (le := [some _]) rfl rfl (Nat.le_of_ble_eq_true rfl) (Nat.le_of_ble_eq_true rfl) rfl ?_
            refine z_iload rfl rfl ?_
            refine z_pushI (z := 0) rfl rfl ?_
            refine z_pushI (z := 5) rfl rfl ?_
            refine z_callSi (As := [_, _, _]) (le := [some _, some _, some _]) rfl rfl (Nat.le_of_ble_eq_true rfl) (Nat.le_of_ble_eq_true rfl) rfl ?_
            refine z_iload rfl rfl ?_
            refine z_iload rfl rfl ?_
            refine z_icmp_ltF rfl (by omega) (by decide) (by omega) ?_
            refine z_iload rfl rfl ?_
            refine z_iload rfl rfl ?_
            refine z_icmp_gtF rfl (by omega) (by decide) (by omega) ?_
            refine z_pushI (z := 1) rfl rfl ?_
            refine z_goto rfl ?_
            refine z_bret rfl rfl (by decide) ?_
            show zW _ _ _ _ _ _ _ _ _ _
            refine z_bret rfl rfl (by decide) ?_
            show zW _ _ _ _ _ _ _ _ _ _
            refine z_if_eqF rfl (by decide) (by decide) ?_
            refine z_iload rfl rfl ?_
            refine z_pushI (z := 0) rfl rfl ?_
            refine z_pushI (z := 7) rfl rfl ?_
            refine z_callSi (As := [_, _, _]) (le := [some _, some _, some _]) rfl rfl (Nat.le_of_ble_eq_true rfl) (Nat.le_of_ble_eq_true rfl) rfl ?_
            refine z_iload rfl rfl ?_
            refine z_iload rfl rfl ?_
            refine z_icmp_ltF rfl (by omega) (by decide) (by omega) ?_
            refine z_iload rfl rfl ?_
            refine z_iload rfl rfl ?_
            refine z_icmp_gtF rfl (by omega) (by decide) (by omega) ?_
            refine z_pushI (z := 1) rfl rfl ?_
            refine z_goto rfl ?_
            refine z_bret rfl rfl (by decide) ?_
            show zW _ _ _ _ _ _ _ _ _ _
            refine z_if_neT rfl (by decide) (by decide) ?_
            refine z_aload rfl rfl ?_
            refine z_getR (r := 83) rfl rfl (hRr _ rm_50_58 (by decide)) ?_
            refine z_iload rfl rfl ?_
            refine z_iald (v := J (38 + 2 * s.toNat) 1) rfl rfl (by decide) (by omega) (e83) ?_
            refine z_pushI (z := (-1)) rfl rfl ?_
            refine z_icmp_neT rfl (by omega) (by decide) (by omega) ?_
            refine z_aload rfl rfl ?_
            refine z_getR (r := 83) rfl rfl (hRr _ rm_50_58 (by decide)) ?_
            refine z_iload rfl rfl ?_
            refine z_iald (v := J (38 + 2 * s.toNat) 1) rfl rfl (by decide) (by omega) (e83) ?_
            refine z_if_ltF rfl (by omega) (by omega) ?_
            refine z_aload rfl rfl ?_
            refine z_getR (r := 81) rfl rfl (hRr _ rm_50_55 (by decide)) ?_
            refine z_aload rfl rfl ?_
            refine z_getR (r := 83) rfl rfl (hRr _ rm_50_58 (by decide)) ?_
            refine z_iload rfl rfl ?_
            refine z_iald (v := J (38 + 2 * s.toNat) 1) rfl rfl (by decide) (by omega) (e83) ?_
            refine z_iald (v := J 35 (J (38 + 2 * s.toNat) 1)) rfl rfl (by decide) (by omega) ((a5 _ (by omega) (by omega)).1.symm) ?_
            refine z_iload rfl rfl ?_
            refine z_callSP (As := [_, _]) (v := uu (J 35 (J (38 + 2 * s.toNat) 1)) k) rfl rfl (Nat.le_of_ble_eq_true rfl) (Nat.le_of_ble_eq_true rfl) (underR (by omega) (by omega)) ?_
            have q11 := @uu_r (J 35 (J (38 + 2 * s.toNat) 1)) k
            refine z_if_eq rfl (by omega) (fun h12 => ?_) (fun h12 => ?_)
            · refine z_pushI (z := (-12)) rfl rfl ?_
              refine z_iret rfl rfl ?_
              refine ⟨?_, ?_⟩
              · first | rfl | exact congrArg (fun v => some (zi v)) (by omega) | (exfalso; omega)
              · exact hr
            · refine z_aload rfl rfl ?_
              refine z_getR (r := 81) rfl rfl (hRr _ rm_50_55 (by decide)) ?_
              refine z_aload rfl rfl ?_
              refine z_getR (r := 83) rfl rfl (hRr _ rm_50_58 (by decide)) ?_
              refine z_iload rfl rfl ?_
              refine z_iald (v := J (38 + 2 * s.toNat) 1) rfl rfl (by decide) (by omega) (e83) ?_
              refine z_iald (v := J 35 (J (38 + 2 * s.toNat) 1)) rfl rfl (by decide) (by omega) ((a5 _ (by omega) (by omega)).1.symm) ?_
              refine z_goto rfl ?_
              refine z_iret rfl rfl ?_
              refine ⟨?_, ?_⟩
              · first | rfl | exact congrArg (fun v => some (zi v)) (by omega) | (exfalso; omega)
              · exact hr
theorem st_taken_2 {X : Nat × (Nat → Int32)} {d : Nat} {J M : zA} {R : zR} {s k : Int} (hr : Rel X J M R) (hs : -2147483648 ≤ s ∧ s < 2147483648) (hk : -2147483648 ≤ k ∧ k < 2147483648) (hs6 : 0 ≤ s ∧ s < 6) (hh : J (38 + 2 * s.toNat) 0 = 2) : zW X (d + 20) 141 0 (gEn 141 [(.ref 0), (zi s), (zi k)]) [] J M R (stP X (d + 20) 255 [(zi s), (zi k)]) := by
  have hr0 := hr
  obtain ⟨hR, hG, hY, hD, hP, hC, hAc, hS, hTp, hX, hW⟩ := hr0
  have hRr : zRoR R := zRoR_of hR
  have hA0 := hAc
  obtain ⟨a1, a2, a3, a4, a5, a6⟩ := hA0
  have e83 : J 83 s = -2 - J (38 + 2 * s.toNat) 2 := (hS s hs6.1 hs6.2).1.symm.trans (cH_2 hh)
  have s3 : 0 ≤ J (38 + 2 * s.toNat) 2 ∧ J (38 + 2 * s.toNat) 2 ≤ 4 := (hS s hs6.1 hs6.2).2.2.1
  have s4 : 0 ≤ J (38 + 2 * s.toNat) 3 ∧ J (38 + 2 * s.toNat) 3 ≤ 60 := (hS s hs6.1 hs6.2).2.2.2.1
  have s6 := (hS s hs6.1 hs6.2).2.2.2.2.2 hh
  have s7 : J 84 s = J (38 + 2 * s.toNat) 3 := s6.1.symm
  have s8 : ∀ i, 0 ≤ i → i < J (38 + 2 * s.toNat) 3 → M (39 + 2 * s.toNat) i = M 85 (60 * s + i) := s6.2.1
  show zW _ _ _ _ [some (.ref 0), some (zi s), some (zi k), none, none] _ _ _ _ _
  refine z_iload rfl rfl ?_
  refine z_callSi (As := [_]) (le := [some _]) rfl rfl (Nat.le_of_ble_eq_true rfl) (Nat.le_of_ble_eq_true rfl) rfl ?_
  refine z_iload rfl rfl ?_
  refine z_if_ltF rfl (by omega) (by omega) ?_
  refine z_iload rfl rfl ?_
  refine z_pushI (z := 6) rfl rfl ?_
  refine z_icmp_geF rfl (by omega) (by decide) (by omega) ?_
  refine z_pushI (z := 1) rfl rfl ?_
  refine z_goto rfl ?_
  refine z_bret rfl rfl (by decide) ?_
  show zW _ _ _ _ _ _ _ _ _ _
  refine z_if_eqF rfl (by decide) (by decide) ?_
  refine z_iload rfl rfl ?_
  refine z_callSi (As := [_]) (le := [some _]) rfl rfl (Nat.le_of_ble_eq_true rfl) (Nat.le_of_ble_eq_true rfl) rfl ?_
  refine z_iload rfl rfl ?_
  refine z_if_lt rfl (by omega) (fun h1 => ?_) (fun h1 => ?_)
  · refine z_pushI (z := 0) rfl rfl ?_
    refine z_bret rfl rfl (by decide) ?_
    show zW _ _ _ _ _ _ _ _ _ _
    refine z_if_neF rfl (by decide) (by decide) ?_
    refine z_pushI (z := (-1)) rfl rfl ?_
    refine z_iret rfl rfl ?_
    refine ⟨_, rfl, ?_⟩
    show zW _ _ _ _ [some (.ref 50), some (zi s), some (zi k)] _ _ _ _ _
    refine z_iload rfl rfl ?_
    refine z_callSi (As := [_]) (le := [some _]) rfl rfl (Nat.le_of_ble_eq_true rfl) (Nat.le_of_ble_eq_true rfl) rfl ?_
    refine z_iload rfl rfl ?_
    refine z_pushI (z := 0) rfl rfl ?_
    refine z_pushI (z := 5) rfl rfl ?_
    refine z_callSi (As := [_, _, _]) (le := [some _, some _, some _]) rfl rfl (Nat.le_of_ble_eq_true rfl) (Nat.le_of_ble_eq_true rfl) rfl ?_
    refine z_iload rfl rfl ?_
    refine z_iload rfl rfl ?_
    refine z_icmp_ltF rfl (by omega) (by decide) (by omega) ?_
    refine z_iload rfl rfl ?_
    refine z_iload rfl rfl ?_
    refine z_icmp_gtF rfl (by omega) (by decide) (by omega) ?_
    refine z_pushI (z := 1) rfl rfl ?_
    refine z_goto rfl ?_
    refine z_bret rfl rfl (by decide) ?_
    show zW _ _ _ _ _ _ _ _ _ _
    refine z_bret rfl rfl (by decide) ?_
    show zW _ _ _ _ _ _ _ _ _ _
    refine z_if_eqF rfl (by decide) (by decide) ?_
    refine z_iload rfl rfl ?_
    refine z_pushI (z := 0) rfl rfl ?_
    refine z_pushI (z := 7) rfl rfl ?_
    refine z_callSi (As := [_, _, _]) (le := [some _, some _, some _]) rfl rfl (Nat.le_of_ble_eq_true rfl) (Nat.le_of_ble_eq_true rfl) rfl ?_
    refine z_iload rfl rfl ?_
    refine z_iload rfl rfl ?_
    refine z_icmp_ltT rfl (by omega) (by decide) (by omega) ?_
    refine z_pushI (z := 0) rfl rfl ?_
    refine z_bret rfl rfl (by decide) ?_
    show zW _ _ _ _ _ _ _ _ _ _
    refine z_if_neF rfl (by decide) (by decide) ?_
    refine z_pushI (z := (-1)) rfl rfl ?_
    refine z_iret rfl rfl ?_
    refine ⟨?_, ?_⟩
    · first | rfl | exact congrArg (fun v => some (zi v)) (by omega) | (exfalso; omega)
    · exact hr
  · refine z_iload rfl rfl ?_
    refine z_pushI (z := 8) rfl rfl ?_
    refine z_icmp_ge rfl (by omega) (by decide) (fun h2 => ?_) (fun h2 => ?_)
    · refine z_pushI (z := 0) rfl rfl ?_
      refine z_bret rfl rfl (by decide) ?_
      show zW _ _ _ _ _ _ _ _ _ _
      refine z_if_neF rfl (by decide) (by decide) ?_
      refine z_pushI (z := (-1)) rfl rfl ?_
      refine z_iret rfl rfl ?_
      refine ⟨_, rfl, ?_⟩
      show zW _ _ _ _ [some (.ref 50), some (zi s), some (zi k)] _ _ _ _ _
      refine z_iload rfl rfl ?_
      refine z_callSi (As := [_]) (le := [some _]) rfl rfl (Nat.le_of_ble_eq_true rfl) (Nat.le_of_ble_eq_true rfl) rfl ?_
      refine z_iload rfl rfl ?_
      refine z_pushI (z := 0) rfl rfl ?_
      refine z_pushI (z := 5) rfl rfl ?_
      refine z_callSi (As := [_, _, _]) (le := [some _, some _, some _]) rfl rfl (Nat.le_of_ble_eq_true rfl) (Nat.le_of_ble_eq_true rfl) rfl ?_
      refine z_iload rfl rfl ?_
      refine z_iload rfl rfl ?_
      refine z_icmp_ltF rfl (by omega) (by decide) (by omega) ?_
      refine z_iload rfl rfl ?_
      refine z_iload rfl rfl ?_
      refine z_icmp_gtF rfl (by omega) (by decide) (by omega) ?_
      refine z_pushI (z := 1) rfl rfl ?_
      refine z_goto rfl ?_
      refine z_bret rfl rfl (by decide) ?_
      show zW _ _ _ _ _ _ _ _ _ _
      refine z_bret rfl rfl (by decide) ?_
      show zW _ _ _ _ _ _ _ _ _ _
      refine z_if_eqF rfl (by decide) (by decide) ?_
      refine z_iload rfl rfl ?_
      refine z_pushI (z := 0) rfl rfl ?_
      refine z_pushI (z := 7) rfl rfl ?_
      refine z_callSi (As := [_, _, _]) (le := [some _, some _, some _]) rfl rfl (Nat.le_of_ble_eq_true rfl) (Nat.le_of_ble_eq_true rfl) rfl ?_
      refine z_iload rfl rfl ?_
      refine z_iload rfl rfl ?_
      refine z_icmp_ltF rfl (by omega) (by decide) (by omega) ?_
      refine z_iload rfl rfl ?_
      refine z_iload rfl rfl ?_
      refine z_icmp_gtT rfl (by omega) (by decide) (by omega) ?_
      refine z_pushI (z := 0) rfl rfl ?_
      refine z_bret rfl rfl (by decide) ?_
      show zW _ _ _ _ _ _ _ _ _ _
      refine z_if_neF rfl (by decide) (by decide) ?_
      refine z_pushI (z := (-1)) rfl rfl ?_
      refine z_iret rfl rfl ?_
      refine ⟨?_, ?_⟩
      · first | rfl | exact congrArg (fun v => some (zi v)) (by omega) | (exfalso; omega)
      · exact hr
    · refine z_pushI (z := 1) rfl rfl ?_
      refine z_goto rfl ?_
      refine z_bret rfl rfl (by decide) ?_
      show zW _ _ _ _ _ _ _ _ _ _
      refine z_if_neT rfl (by decide) (by decide) ?_
      refine z_aload rfl rfl ?_
      refine z_getR (r := 37) rfl rfl (hR _ rm_0_11) ?_
      refine z_iload rfl rfl ?_
      refine z_aald (r := 38 + 2 * s.toNat) rfl rfl (by decide) (by omega) (rr_shelf hR (by omega)) ?_
      refine z_astore rfl rfl ?_
      refine z_aload rfl rfl ?_
      refine z_callVi (As := []) (le := [some _]) rfl rfl (zk_shelf (by omega)) (Nat.le_of_ble_eq_true rfl) (Nat.le_of_ble_eq_true rfl) rfl ?_
      refine z_aload rfl rfl ?_
      refine z_getI (v := 2) rfl (zk_shelf (by omega)) (hh) ?_
      refine z_if_neT rfl (by decide) (by decide) ?_
      refine z_pushI (z := 0) rfl rfl ?_
      refine z_bret rfl rfl (by decide) ?_
      show zW _ _ _ _ _ _ _ _ _ _
      refine z_if_eqT rfl (by decide) (by decide) ?_
      refine z_aload rfl rfl ?_
      refine z_callVi (As := []) (le := [some _]) rfl rfl (zk_shelf (by omega)) (Nat.le_of_ble_eq_true rfl) (Nat.le_of_ble_eq_true rfl) rfl ?_
      refine z_aload rfl rfl ?_
      refine z_getI (v := 2) rfl (zk_shelf (by omega)) (hh) ?_
      refine z_pushI (z := 1) rfl rfl ?_
      refine z_icmp_neT rfl (by decide) (by decide) (by decide) ?_
      refine z_pushI (z := 0) rfl rfl ?_
      refine z_bret rfl rfl (by decide) ?_
      show zW _ _ _ _ _ _ _ _ _ _
      refine z_if_neF rfl (by decide) (by decide) ?_
      refine z_pushI (z := (-12)) rfl rfl ?_
      refine z_iret rfl rfl ?_
      refine ⟨_, rfl, ?_⟩
      show zW _ _ _ _ [some (.ref 50), some (zi s), some (zi k)] _ _ _ _ _
      refine z_iload rfl rfl ?_
      refine z_callSi (As := [_]) (le := [some _]) rfl rfl (Nat.le_of_ble_eq_true rfl) (Nat.le_of_ble_eq_true rfl) rfl ?_
      refine z_iload rfl rfl ?_
      refine z_pushI (z := 0) rfl rfl ?_
      refine z_pushI (z := 5) rfl rfl ?_
      refine z_callSi (As := [_, _, _]) (le := [some _, some _, some _]) rfl rfl (Nat.le_of_ble_eq_true rfl) (Nat.le_of_ble_eq_true rfl) rfl ?_
      refine z_iload rfl rfl ?_
      refine z_iload rfl rfl ?_
      refine z_icmp_ltF rfl (by omega) (by decide) (by omega) ?_
      refine z_iload rfl rfl ?_
      refine z_iload rfl rfl ?_
      refine z_icmp_gtF rfl (by omega) (by decide) (by omega) ?_
      refine z_pushI (z := 1) rfl rfl ?_
      refine z_goto rfl ?_
      refine z_bret rfl rfl (by decide) ?_
      show zW _ _ _ _ _ _ _ _ _ _
      refine z_bret rfl rfl (by decide) ?_
      show zW _ _ _ _ _ _ _ _ _ _
      refine z_if_eqF rfl (by decide) (by decide) ?_
      refine z_iload rfl rfl ?_
      refine z_pushI (z := 0) rfl rfl ?_
      refine z_pushI (z := 7) rfl rfl ?_
      refine z_callSi (As := [_, _, _]) (le := [some _, some _, some _]) rfl rfl (Nat.le_of_ble_eq_true rfl) (Nat.le_of_ble_eq_true rfl) rfl ?_
      refine z_iload rfl rfl ?_
      refine z_iload rfl rfl ?_
      refine z_icmp_ltF rfl (by omega) (by decide) (by omega) ?_
      refine z_iload rfl rfl ?_
      refine z_iload rfl rfl ?_
      refine z_icmp_gtF rfl (by omega) (by decide) (by omega) ?_
      refine z_pushI (z := 1) rfl rfl ?_
      refine z_goto rfl ?_
      refine z_bret rfl rfl (by decide) ?_
      show zW _ _ _ _ _ _ _ _ _ _
      refine z_if_neT rfl (by decide) (by decide) ?_
      refine z_aload rfl rfl ?_
      refine z_getR (r := 83) rfl rfl (hRr _ rm_50_58 (by decide)) ?_
      refine z_iload rfl rfl ?_
      refine z_iald (v := (-2) - (J (38 + 2 * s.toNat) 2)) rfl rfl (by decide) (by omega) (e83) ?_
      refine z_pushI (z := (-1)) rfl rfl ?_
      refine z_icmp_ne rfl (by omega) (by decide) (fun h3 => ?_) (fun h3 => ?_)
      · refine z_aload rfl rfl ?_
        refine z_getR (r := 83) rfl rfl (hRr _ rm_50_58 (by decide)) ?_
        refine z_iload rfl rfl ?_
        refine z_iald (v := (-2) - (J (38 + 2 * s.toNat) 2)) rfl rfl (by decide) (by omega) (e83) ?_
        refine z_if_lt rfl (by omega) (fun h4 => ?_) (fun h4 => ?_)
        · refine z_pushI (z := (-12)) rfl rfl ?_
          refine z_iret rfl rfl ?_
          refine ⟨?_, ?_⟩
          · first | rfl | exact congrArg (fun v => some (zi v)) (by omega) | (exfalso; omega)
          · exact hr
        · refine z_aload rfl rfl ?_
          refine z_getR (r := 81) rfl rfl (hRr _ rm_50_55 (by decide)) ?_
          refine z_aload rfl rfl ?_
          refine z_getR (r := 83) rfl rfl (hRr _ rm_50_58 (by decide)) ?_
          refine z_iload rfl rfl ?_
          refine z_iald (v := (-2) - (J (38 + 2 * s.toNat) 2)) rfl rfl (by decide) (by omega) (e83) ?_
          refine z_iald (v := J 81 ((-2) - (J (38 + 2 * s.toNat) 2))) rfl rfl (by decide) (by omega) (rfl) ?_
          refine z_iload rfl rfl ?_
          refine z_callSP (As := [_, _]) (v := uu (J 81 ((-2) - (J (38 + 2 * s.toNat) 2))) k) rfl rfl (Nat.le_of_ble_eq_true rfl) (Nat.le_of_ble_eq_true rfl) (underR (by omega) (by omega)) ?_
          have q5 := @uu_r (J 81 ((-2) - (J (38 + 2 * s.toNat) 2))) k
          refine z_if_eq rfl (by omega) (fun h6 => ?_) (fun h6 => ?_)
          · refine z_pushI (z := (-12)) rfl rfl ?_
            refine z_iret rfl rfl ?_
            refine ⟨?_, ?_⟩
            · first | rfl | exact congrArg (fun v => some (zi v)) (by omega) | (exfalso; omega)
            · exact hr
          · refine z_aload rfl rfl ?_
            refine z_getR (r := 81) rfl rfl (hRr _ rm_50_55 (by decide)) ?_
            refine z_aload rfl rfl ?_
            refine z_getR (r := 83) rfl rfl (hRr _ rm_50_58 (by decide)) ?_
            refine z_iload rfl rfl ?_
            refine z_iald (v := (-2) - (J (38 + 2 * s.toNat) 2)) rfl rfl (by decide) (by omega) (e83) ?_
            refine z_iald (v := J 81 ((-2) - (J (38 + 2 * s.toNat) 2))) rfl rfl (by decide) (by omega) (rfl) ?_
            refine z_goto rfl ?_
            refine z_iret rfl rfl ?_
            refine ⟨?_, ?_⟩
            · first | rfl | exact congrArg (fun v => some (zi v)) (by omega) | (exfalso; omega)
            · exact hr
      · refine z_pushI (z := (-11)) rfl rfl ?_
        refine z_iret rfl rfl ?_
        refine ⟨?_, ?_⟩
        · first | rfl | exact congrArg (fun v => some (zi v)) (by omega) | (exfalso; omega)
        · exact hr
theorem st_taken {X : Nat × (Nat → Int32)} {d : Nat} {J M : zA} {R : zR} {s k : Int} (hr : Rel X J M R) (hs : -2147483648 ≤ s ∧ s < 2147483648) (hk : -2147483648 ≤ k ∧ k < 2147483648) : zW X (d + 20) 141 0 (gEn 141 [(.ref 0), (zi s), (zi k)]) [] J M R (stP X (d + 20) 255 [(zi s), (zi k)]) := by
  by_cases hs6 : 0 ≤ s ∧ s < 6
  · have hS : RelS J M := hr.2.2.2.2.2.2.2.1
    have h2 := (hS s hs6.1 hs6.2).2.1
    have h4 : J (38 + 2 * s.toNat) 0 = 0 ∨ J (38 + 2 * s.toNat) 0 = 1 ∨ J (38 + 2 * s.toNat) 0 = 2 := by omega
    rcases h4 with hh | hh | hh
    · exact st_taken_0 hr hs hk hs6 hh
    · exact st_taken_1 hr hs hk hs6 hh
    · exact st_taken_2 hr hs hk hs6 hh
  · exact st_taken_n hr hs hk hs6
