abbrev zV (n p w : Int) : Prop := (0 ≤ w ∧ w < 5 ∧ 0 ≤ p ∧ p < n) ∨ (5 ≤ w ∧ w < 14 ∧ p = 0)
theorem w14 {w : Int} (h : 0 ≤ w ∧ w < 14) : w = 0 ∨ w = 1 ∨ w = 2 ∨ w = 3 ∨ w = 4 ∨ w = 5 ∨ w = 6 ∨ w = 7 ∨ w = 8 ∨ w = 9 ∨ w = 10 ∨ w = 11 ∨ w = 12 ∨ w = 13 := by omega
theorem zT_2r {w : Int} (h : 0 ≤ w ∧ w < 14) : 0 ≤ zT 2 w ∧ zT 2 w ≤ 1 := by
  rcases w14 h with rfl | rfl | rfl | rfl | rfl | rfl | rfl | rfl | rfl | rfl | rfl | rfl | rfl | rfl <;> exact ⟨by decide, by decide⟩
theorem zT_3r {w : Int} (h : 0 ≤ w ∧ w < 14) : 0 ≤ zT 3 w ∧ zT 3 w ≤ 9999 := by
  rcases w14 h with rfl | rfl | rfl | rfl | rfl | rfl | rfl | rfl | rfl | rfl | rfl | rfl | rfl | rfl <;> exact ⟨by decide, by decide⟩
theorem zFit_at2 {w c lo hi : Int} (e1 : zT 2 c = lo) (e2 : zT 3 c = hi) (e : w = c) : zT 2 w = lo ∧ zT 3 w = hi := by subst e; exact ⟨e1, e2⟩
theorem zFit_d {w : Int} (h : w = 0 ∨ w = 1 ∨ w = 2 ∨ w = 5) : zT 2 w = 0 ∧ zT 3 w = 99 := by
  rcases h with rfl | rfl | rfl | rfl <;> exact ⟨rfl, rfl⟩
theorem isNumber_1 {X : Nat × (Nat → Int32)} {d : Nat} {J M : zA} {R : zR} {n p w : Int} (hR : zRok R) (hz : J 8 2 = n) (hn : 0 ≤ n ∧ n ≤ 8) (hp : -2147483648 ≤ p ∧ p < 2147483648) (hw : -2147483648 ≤ w ∧ w < 2147483648) (hV : zV n p w) : zW X (d + 3) 88 0 (gEn 88 [(.ref 8), (zi p), (zi w)]) [] J M R (zPu (1) J M R) := by
  show zW _ _ _ _ [some (.ref 8), some (zi p), some (zi w)] _ _ _ _ _
  refine z_aload rfl rfl ?_
  refine z_iload rfl rfl ?_
  refine z_iload rfl rfl ?_
  refine z_callVi (As := [_, _]) (le := [some _, some _, some _]) rfl rfl rfl (Nat.le_of_ble_eq_true rfl) (Nat.le_of_ble_eq_true rfl) rfl ?_
  refine z_iload rfl rfl ?_
  refine z_if_lt rfl (by omega) (fun h1 => ?_) (fun h1 => ?_)
  · refine z_pushI (z := (-1)) rfl rfl ?_
    refine z_iret rfl rfl ?_
    show zW _ _ _ _ _ _ _ _ _ _
    refine z_if_ltT rfl (by decide) (by decide) ?_
    refine z_pushI (z := 0) rfl rfl ?_
    refine z_bret rfl rfl (by decide) ?_
    first | exact ⟨rfl, rfl, rfl, rfl⟩ | (exfalso; omega)
  · refine z_iload rfl rfl ?_
    refine z_pushI (z := 14) rfl rfl ?_
    refine z_icmp_lt rfl (by omega) (by decide) (fun h2 => ?_) (fun h2 => ?_)
    · refine z_iload rfl rfl ?_
      refine z_pushI (z := 5) rfl rfl ?_
      refine z_icmp_ge rfl (by omega) (by decide) (fun h3 => ?_) (fun h3 => ?_)
      · refine z_iload rfl rfl ?_
        refine z_if_ne rfl (by omega) (fun h4 => ?_) (fun h4 => ?_)
        · refine z_pushI (z := (-1)) rfl rfl ?_
          refine z_iret rfl rfl ?_
          show zW _ _ _ _ _ _ _ _ _ _
          refine z_if_ltT rfl (by decide) (by decide) ?_
          refine z_pushI (z := 0) rfl rfl ?_
          refine z_bret rfl rfl (by decide) ?_
          first | exact ⟨rfl, rfl, rfl, rfl⟩ | (exfalso; omega)
        · refine z_pushI (z := 40) rfl rfl ?_
          refine z_iload rfl rfl ?_
          refine z_iadd (e := 40 + w) rfl rfl ?_
          refine z_goto rfl ?_
          refine z_iret rfl rfl ?_
          show zW _ _ _ _ _ _ _ _ _ _
          refine z_if_lt rfl (by omega) (fun h5 => ?_) (fun h5 => ?_)
          · refine z_pushI (z := 0) rfl rfl ?_
            refine z_bret rfl rfl (by decide) ?_
            first | exact ⟨rfl, rfl, rfl, rfl⟩ | (exfalso; omega)
          · refine z_pushI (z := 1) rfl rfl ?_
            refine z_goto rfl ?_
            refine z_bret rfl rfl (by decide) ?_
            first | exact ⟨rfl, rfl, rfl, rfl⟩ | (exfalso; omega)
      · refine z_aload rfl rfl ?_
        refine z_iload rfl rfl ?_
        refine z_callVi (As := [_]) (le := [some _, some _]) rfl rfl rfl (Nat.le_of_ble_eq_true rfl) (Nat.le_of_ble_eq_true rfl) rfl ?_
        refine z_iload rfl rfl ?_
        refine z_if_lt rfl (by omega) (fun h6 => ?_) (fun h6 => ?_)
        · refine z_pushI (z := 0) rfl rfl ?_
          refine z_bret rfl rfl (by decide) ?_
          show zW _ _ _ _ _ _ _ _ _ _
          refine z_if_eqT rfl (by decide) (by decide) ?_
          refine z_pushI (z := (-1)) rfl rfl ?_
          refine z_iret rfl rfl ?_
          show zW _ _ _ _ _ _ _ _ _ _
          refine z_if_ltT rfl (by decide) (by decide) ?_
          refine z_pushI (z := 0) rfl rfl ?_
          refine z_bret rfl rfl (by decide) ?_
          first | exact ⟨rfl, rfl, rfl, rfl⟩ | (exfalso; omega)
        · refine z_iload rfl rfl ?_
          refine z_aload rfl rfl ?_
          refine z_getI (v := n) rfl rfl (hz) ?_
          refine z_icmp_ge rfl (by omega) (by omega) (fun h7 => ?_) (fun h7 => ?_)
          · refine z_pushI (z := 0) rfl rfl ?_
            refine z_bret rfl rfl (by decide) ?_
            show zW _ _ _ _ _ _ _ _ _ _
            refine z_if_eqT rfl (by decide) (by decide) ?_
            refine z_pushI (z := (-1)) rfl rfl ?_
            refine z_iret rfl rfl ?_
            show zW _ _ _ _ _ _ _ _ _ _
            refine z_if_ltT rfl (by decide) (by decide) ?_
            refine z_pushI (z := 0) rfl rfl ?_
            refine z_bret rfl rfl (by decide) ?_
            first | exact ⟨rfl, rfl, rfl, rfl⟩ | (exfalso; omega)
          · refine z_pushI (z := 1) rfl rfl ?_
            refine z_goto rfl ?_
            refine z_bret rfl rfl (by decide) ?_
            show zW _ _ _ _ _ _ _ _ _ _
            refine z_if_eqF rfl (by decide) (by decide) ?_
            refine z_iload rfl rfl ?_
            refine z_pushI (z := 5) rfl rfl ?_
            refine z_imul (e := p * 5) rfl rfl ?_
            refine z_iload rfl rfl ?_
            refine z_iadd (e := p * 5 + w) rfl rfl ?_
            refine z_goto rfl ?_
            refine z_iret rfl rfl ?_
            show zW _ _ _ _ _ _ _ _ _ _
            refine z_if_lt rfl (by omega) (fun h8 => ?_) (fun h8 => ?_)
            · refine z_pushI (z := 0) rfl rfl ?_
              refine z_bret rfl rfl (by decide) ?_
              first | exact ⟨rfl, rfl, rfl, rfl⟩ | (exfalso; omega)
            · refine z_pushI (z := 1) rfl rfl ?_
              refine z_goto rfl ?_
              refine z_bret rfl rfl (by decide) ?_
              first | exact ⟨rfl, rfl, rfl, rfl⟩ | (exfalso; omega)
    · refine z_pushI (z := (-1)) rfl rfl ?_
      refine z_iret rfl rfl ?_
      show zW _ _ _ _ _ _ _ _ _ _
      refine z_if_ltT rfl (by decide) (by decide) ?_
      refine z_pushI (z := 0) rfl rfl ?_
      refine z_bret rfl rfl (by decide) ?_
      first | exact ⟨rfl, rfl, rfl, rfl⟩ | (exfalso; omega)
theorem isNumber_0 {X : Nat × (Nat → Int32)} {d : Nat} {J M : zA} {R : zR} {n p w : Int} (hR : zRok R) (hz : J 8 2 = n) (hn : 0 ≤ n ∧ n ≤ 8) (hp : -2147483648 ≤ p ∧ p < 2147483648) (hw : -2147483648 ≤ w ∧ w < 2147483648) (hV : ¬ zV n p w) : zW X (d + 3) 88 0 (gEn 88 [(.ref 8), (zi p), (zi w)]) [] J M R (zPu (0) J M R) := by
  show zW _ _ _ _ [some (.ref 8), some (zi p), some (zi w)] _ _ _ _ _
  refine z_aload rfl rfl ?_
  refine z_iload rfl rfl ?_
  refine z_iload rfl rfl ?_
  refine z_callVi (As := [_, _]) (le := [some _, some _, some _]) rfl rfl rfl (Nat.le_of_ble_eq_true rfl) (Nat.le_of_ble_eq_true rfl) rfl ?_
  refine z_iload rfl rfl ?_
  refine z_if_lt rfl (by omega) (fun h1 => ?_) (fun h1 => ?_)
  · refine z_pushI (z := (-1)) rfl rfl ?_
    refine z_iret rfl rfl ?_
    show zW _ _ _ _ _ _ _ _ _ _
    refine z_if_ltT rfl (by decide) (by decide) ?_
    refine z_pushI (z := 0) rfl rfl ?_
    refine z_bret rfl rfl (by decide) ?_
    first | exact ⟨rfl, rfl, rfl, rfl⟩ | (exfalso; omega)
  · refine z_iload rfl rfl ?_
    refine z_pushI (z := 14) rfl rfl ?_
    refine z_icmp_lt rfl (by omega) (by decide) (fun h2 => ?_) (fun h2 => ?_)
    · refine z_iload rfl rfl ?_
      refine z_pushI (z := 5) rfl rfl ?_
      refine z_icmp_ge rfl (by omega) (by decide) (fun h3 => ?_) (fun h3 => ?_)
      · refine z_iload rfl rfl ?_
        refine z_if_ne rfl (by omega) (fun h4 => ?_) (fun h4 => ?_)
        · refine z_pushI (z := (-1)) rfl rfl ?_
          refine z_iret rfl rfl ?_
          show zW _ _ _ _ _ _ _ _ _ _
          refine z_if_ltT rfl (by decide) (by decide) ?_
          refine z_pushI (z := 0) rfl rfl ?_
          refine z_bret rfl rfl (by decide) ?_
          first | exact ⟨rfl, rfl, rfl, rfl⟩ | (exfalso; omega)
        · refine z_pushI (z := 40) rfl rfl ?_
          refine z_iload rfl rfl ?_
          refine z_iadd (e := 40 + w) rfl rfl ?_
          refine z_goto rfl ?_
          refine z_iret rfl rfl ?_
          show zW _ _ _ _ _ _ _ _ _ _
          refine z_if_lt rfl (by omega) (fun h5 => ?_) (fun h5 => ?_)
          · refine z_pushI (z := 0) rfl rfl ?_
            refine z_bret rfl rfl (by decide) ?_
            first | exact ⟨rfl, rfl, rfl, rfl⟩ | (exfalso; omega)
          · refine z_pushI (z := 1) rfl rfl ?_
            refine z_goto rfl ?_
            refine z_bret rfl rfl (by decide) ?_
            first | exact ⟨rfl, rfl, rfl, rfl⟩ | (exfalso; omega)
      · refine z_aload rfl rfl ?_
        refine z_iload rfl rfl ?_
        refine z_callVi (As := [_]) (le := [some _, some _]) rfl rfl rfl (Nat.le_of_ble_eq_true rfl) (Nat.le_of_ble_eq_true rfl) rfl ?_
        refine z_iload rfl rfl ?_
        refine z_if_lt rfl (by omega) (fun h6 => ?_) (fun h6 => ?_)
        · refine z_pushI (z := 0) rfl rfl ?_
          refine z_bret rfl rfl (by decide) ?_
          show zW _ _ _ _ _ _ _ _ _ _
          refine z_if_eqT rfl (by decide) (by decide) ?_
          refine z_pushI (z := (-1)) rfl rfl ?_
          refine z_iret rfl rfl ?_
          show zW _ _ _ _ _ _ _ _ _ _
          refine z_if_ltT rfl (by decide) (by decide) ?_
          refine z_pushI (z := 0) rfl rfl ?_
          refine z_bret rfl rfl (by decide) ?_
          first | exact ⟨rfl, rfl, rfl, rfl⟩ | (exfalso; omega)
        · refine z_iload rfl rfl ?_
          refine z_aload rfl rfl ?_
          refine z_getI (v := n) rfl rfl (hz) ?_
          refine z_icmp_ge rfl (by omega) (by omega) (fun h7 => ?_) (fun h7 => ?_)
          · refine z_pushI (z := 0) rfl rfl ?_
            refine z_bret rfl rfl (by decide) ?_
            show zW _ _ _ _ _ _ _ _ _ _
            refine z_if_eqT rfl (by decide) (by decide) ?_
            refine z_pushI (z := (-1)) rfl rfl ?_
            refine z_iret rfl rfl ?_
            show zW _ _ _ _ _ _ _ _ _ _
            refine z_if_ltT rfl (by decide) (by decide) ?_
            refine z_pushI (z := 0) rfl rfl ?_
            refine z_bret rfl rfl (by decide) ?_
            first | exact ⟨rfl, rfl, rfl, rfl⟩ | (exfalso; omega)
          · refine z_pushI (z := 1) rfl rfl ?_
            refine z_goto rfl ?_
            refine z_bret rfl rfl (by decide) ?_
            show zW _ _ _ _ _ _ _ _ _ _
            refine z_if_eqF rfl (by decide) (by decide) ?_
            refine z_iload rfl rfl ?_
            refine z_pushI (z := 5) rfl rfl ?_
            refine z_imul (e := p * 5) rfl rfl ?_
            refine z_iload rfl rfl ?_
            refine z_iadd (e := p * 5 + w) rfl rfl ?_
            refine z_goto rfl ?_
            refine z_iret rfl rfl ?_
            show zW _ _ _ _ _ _ _ _ _ _
            refine z_if_lt rfl (by omega) (fun h8 => ?_) (fun h8 => ?_)
            · refine z_pushI (z := 0) rfl rfl ?_
              refine z_bret rfl rfl (by decide) ?_
              first | exact ⟨rfl, rfl, rfl, rfl⟩ | (exfalso; omega)
            · refine z_pushI (z := 1) rfl rfl ?_
              refine z_goto rfl ?_
              refine z_bret rfl rfl (by decide) ?_
              first | exact ⟨rfl, rfl, rfl, rfl⟩ | (exfalso; omega)
    · refine z_pushI (z := (-1)) rfl rfl ?_
      refine z_iret rfl rfl ?_
      show zW _ _ _ _ _ _ _ _ _ _
      refine z_if_ltT rfl (by decide) (by decide) ?_
      refine z_pushI (z := 0) rfl rfl ?_
      refine z_bret rfl rfl (by decide) ?_
      first | exact ⟨rfl, rfl, rfl, rfl⟩ | (exfalso; omega)
theorem isFit_1 {X : Nat × (Nat → Int32)} {d : Nat} {J M : zA} {R : zR} {v w : Int} (hv : -2147483648 ≤ v ∧ v < 2147483648) (hw : -2147483648 ≤ w ∧ w < 2147483648) (hw2 : 0 ≤ w ∧ w < 14) (hf : zT 2 w ≤ v ∧ v ≤ zT 3 w) : zW X (d + 1) 86 0 (gEn 86 [(zi w), (zi v)]) [] J M R (zPu (1) J M R) := by
  show zW _ _ _ _ [some (zi w), some (zi v)] _ _ _ _ _
  refine z_iload rfl rfl ?_
  refine z_if_lt rfl (by omega) (fun h1 => ?_) (fun h1 => ?_)
  · refine z_pushI (z := 0) rfl rfl ?_
    refine z_bret rfl rfl (by decide) ?_
    first | exact ⟨rfl, rfl, rfl, rfl⟩ | (exfalso; omega)
  · refine z_iload rfl rfl ?_
    refine z_pushI (z := 14) rfl rfl ?_
    refine z_icmp_ge rfl (by omega) (by decide) (fun h2 => ?_) (fun h2 => ?_)
    · refine z_pushI (z := 0) rfl rfl ?_
      refine z_bret rfl rfl (by decide) ?_
      first | exact ⟨rfl, rfl, rfl, rfl⟩ | (exfalso; omega)
    · refine z_iload rfl rfl ?_
      refine z_getS rfl ?_
      refine z_iload rfl rfl ?_
      have q3 := zT_2r (w := w) (by omega)
      refine z_sald (j := 1) (n := 14) (v := zT 2 w) rfl (by decide) rfl (by decide) (by omega) rfl ?_
      refine z_icmp_lt rfl (by omega) (by omega) (fun h4 => ?_) (fun h4 => ?_)
      · refine z_pushI (z := 0) rfl rfl ?_
        refine z_bret rfl rfl (by decide) ?_
        first | exact ⟨rfl, rfl, rfl, rfl⟩ | (exfalso; omega)
      · refine z_iload rfl rfl ?_
        refine z_getS rfl ?_
        refine z_iload rfl rfl ?_
        have q5 := zT_3r (w := w) (by omega)
        refine z_sald (j := 2) (n := 14) (v := zT 3 w) rfl (by decide) rfl (by decide) (by omega) rfl ?_
        refine z_icmp_gt rfl (by omega) (by omega) (fun h6 => ?_) (fun h6 => ?_)
        · refine z_pushI (z := 0) rfl rfl ?_
          refine z_bret rfl rfl (by decide) ?_
          first | exact ⟨rfl, rfl, rfl, rfl⟩ | (exfalso; omega)
        · refine z_pushI (z := 1) rfl rfl ?_
          refine z_goto rfl ?_
          refine z_bret rfl rfl (by decide) ?_
          first | exact ⟨rfl, rfl, rfl, rfl⟩ | (exfalso; omega)
theorem isFit_0 {X : Nat × (Nat → Int32)} {d : Nat} {J M : zA} {R : zR} {v w : Int} (hv : -2147483648 ≤ v ∧ v < 2147483648) (hw : -2147483648 ≤ w ∧ w < 2147483648) (hw2 : 0 ≤ w ∧ w < 14) (hf : ¬ (zT 2 w ≤ v ∧ v ≤ zT 3 w)) : zW X (d + 1) 86 0 (gEn 86 [(zi w), (zi v)]) [] J M R (zPu (0) J M R) := by
  show zW _ _ _ _ [some (zi w), some (zi v)] _ _ _ _ _
  refine z_iload rfl rfl ?_
  refine z_if_lt rfl (by omega) (fun h1 => ?_) (fun h1 => ?_)
  · refine z_pushI (z := 0) rfl rfl ?_
    refine z_bret rfl rfl (by decide) ?_
    first | exact ⟨rfl, rfl, rfl, rfl⟩ | (exfalso; omega)
  · refine z_iload rfl rfl ?_
    refine z_pushI (z := 14) rfl rfl ?_
    refine z_icmp_ge rfl (by omega) (by decide) (fun h2 => ?_) (fun h2 => ?_)
    · refine z_pushI (z := 0) rfl rfl ?_
      refine z_bret rfl rfl (by decide) ?_
      first | exact ⟨rfl, rfl, rfl, rfl⟩ | (exfalso; omega)
    · refine z_iload rfl rfl ?_
      refine z_getS rfl ?_
      refine z_iload rfl rfl ?_
      have q3 := zT_2r (w := w) (by omega)
      refine z_sald (j := 1) (n := 14) (v := zT 2 w) rfl (by decide) rfl (by decide) (by omega) rfl ?_
      refine z_icmp_lt rfl (by omega) (by omega) (fun h4 => ?_) (fun h4 => ?_)
      · refine z_pushI (z := 0) rfl rfl ?_
        refine z_bret rfl rfl (by decide) ?_
        first | exact ⟨rfl, rfl, rfl, rfl⟩ | (exfalso; omega)
      · refine z_iload rfl rfl ?_
        refine z_getS rfl ?_
        refine z_iload rfl rfl ?_
        have q5 := zT_3r (w := w) (by omega)
        refine z_sald (j := 2) (n := 14) (v := zT 3 w) rfl (by decide) rfl (by decide) (by omega) rfl ?_
        refine z_icmp_gt rfl (by omega) (by omega) (fun h6 => ?_) (fun h6 => ?_)
        · refine z_pushI (z := 0) rfl rfl ?_
          refine z_bret rfl rfl (by decide) ?_
          first | exact ⟨rfl, rfl, rfl, rfl⟩ | (exfalso; omega)
        · refine z_pushI (z := 1) rfl rfl ?_
          refine z_goto rfl ?_
          refine z_bret rfl rfl (by decide) ?_
          first | exact ⟨rfl, rfl, rfl, rfl⟩ | (exfalso; omega)
theorem tell_p {X : Nat × (Nat → Int32)} {d : Nat} {J M : zA} {R : zR} {n p w v : Int} (hR : zRok R) (hz : J 8 2 = n) (hn : 0 ≤ n ∧ n ≤ 8) (hp : -2147483648 ≤ p ∧ p < 2147483648) (hw : -2147483648 ≤ w ∧ w < 2147483648) (hV : 0 ≤ w ∧ w < 5 ∧ 0 ≤ p ∧ p < n) : zW X (d + 3) 91 0 (gEn 91 [(.ref 8), (zi p), (zi w), (zi v)]) [] J M R (zPx none (zU J 9 (p * 5 + w) v) M R) := by
  show zW _ _ _ _ [some (.ref 8), some (zi p), some (zi w), some (zi v), none] _ _ _ _ _
  refine z_aload rfl rfl ?_
  refine z_iload rfl rfl ?_
  refine z_iload rfl rfl ?_
  refine z_callVi (As := [_, _]) (le := [some _, some _, some _]) rfl rfl rfl (Nat.le_of_ble_eq_true rfl) (Nat.le_of_ble_eq_true rfl) rfl ?_
  refine z_iload rfl rfl ?_
  refine z_if_lt rfl (by omega) (fun h1 => ?_) (fun h1 => ?_)
  · refine z_pushI (z := (-1)) rfl rfl ?_
    refine z_iret rfl rfl ?_
    show zW _ _ _ _ _ _ _ _ _ _
    refine z_istore rfl rfl ?_
    refine z_iload rfl rfl ?_
    refine z_if_ltT rfl (by decide) (by decide) ?_
    refine z_vret rfl rfl ?_
    exfalso
    omega
  · refine z_iload rfl rfl ?_
    refine z_pushI (z := 14) rfl rfl ?_
    refine z_icmp_lt rfl (by omega) (by decide) (fun h2 => ?_) (fun h2 => ?_)
    · refine z_iload rfl rfl ?_
      refine z_pushI (z := 5) rfl rfl ?_
      refine z_icmp_ge rfl (by omega) (by decide) (fun h3 => ?_) (fun h3 => ?_)
      · refine z_iload rfl rfl ?_
        refine z_if_ne rfl (by omega) (fun h4 => ?_) (fun h4 => ?_)
        · refine z_pushI (z := (-1)) rfl rfl ?_
          refine z_iret rfl rfl ?_
          show zW _ _ _ _ _ _ _ _ _ _
          refine z_istore rfl rfl ?_
          refine z_iload rfl rfl ?_
          refine z_if_ltT rfl (by decide) (by decide) ?_
          refine z_vret rfl rfl ?_
          exfalso
          omega
        · refine z_pushI (z := 40) rfl rfl ?_
          refine z_iload rfl rfl ?_
          refine z_iadd (e := 40 + w) rfl rfl ?_
          refine z_goto rfl ?_
          refine z_iret rfl rfl ?_
          show zW _ _ _ _ _ _ _ _ _ _
          refine z_istore rfl rfl ?_
          refine z_iload rfl rfl ?_
          refine z_if_lt rfl (by omega) (fun h5 => ?_) (fun h5 => ?_)
          · refine z_vret rfl rfl ?_
            exfalso
            omega
          · refine z_aload rfl rfl ?_
            refine z_getR (r := 9) rfl rfl (hR _ rm_8_1) ?_
            refine z_iload rfl rfl ?_
            refine z_iload rfl rfl ?_
            refine z_iast (e := v) rfl rfl (by decide) (by omega) rfl ?_
            refine z_vret rfl rfl ?_
            exfalso
            omega
      · refine z_aload rfl rfl ?_
        refine z_iload rfl rfl ?_
        refine z_callVi (As := [_]) (le := [some _, some _]) rfl rfl rfl (Nat.le_of_ble_eq_true rfl) (Nat.le_of_ble_eq_true rfl) rfl ?_
        refine z_iload rfl rfl ?_
        refine z_if_lt rfl (by omega) (fun h6 => ?_) (fun h6 => ?_)
        · refine z_pushI (z := 0) rfl rfl ?_
          refine z_bret rfl rfl (by decide) ?_
          show zW _ _ _ _ _ _ _ _ _ _
          refine z_if_eqT rfl (by decide) (by decide) ?_
          refine z_pushI (z := (-1)) rfl rfl ?_
          refine z_iret rfl rfl ?_
          show zW _ _ _ _ _ _ _ _ _ _
          refine z_istore rfl rfl ?_
          refine z_iload rfl rfl ?_
          refine z_if_ltT rfl (by decide) (by decide) ?_
          refine z_vret rfl rfl ?_
          exfalso
          omega
        · refine z_iload rfl rfl ?_
          refine z_aload rfl rfl ?_
          refine z_getI (v := n) rfl rfl (hz) ?_
          refine z_icmp_ge rfl (by omega) (by omega) (fun h7 => ?_) (fun h7 => ?_)
          · refine z_pushI (z := 0) rfl rfl ?_
            refine z_bret rfl rfl (by decide) ?_
            show zW _ _ _ _ _ _ _ _ _ _
            refine z_if_eqT rfl (by decide) (by decide) ?_
            refine z_pushI (z := (-1)) rfl rfl ?_
            refine z_iret rfl rfl ?_
            show zW _ _ _ _ _ _ _ _ _ _
            refine z_istore rfl rfl ?_
            refine z_iload rfl rfl ?_
            refine z_if_ltT rfl (by decide) (by decide) ?_
            refine z_vret rfl rfl ?_
            exfalso
            omega
          · refine z_pushI (z := 1) rfl rfl ?_
            refine z_goto rfl ?_
            refine z_bret rfl rfl (by decide) ?_
            show zW _ _ _ _ _ _ _ _ _ _
            refine z_if_eqF rfl (by decide) (by decide) ?_
            refine z_iload rfl rfl ?_
            refine z_pushI (z := 5) rfl rfl ?_
            refine z_imul (e := p * 5) rfl rfl ?_
            refine z_iload rfl rfl ?_
            refine z_iadd (e := p * 5 + w) rfl rfl ?_
            refine z_goto rfl ?_
            refine z_iret rfl rfl ?_
            show zW _ _ _ _ _ _ _ _ _ _
            refine z_istore rfl rfl ?_
            refine z_iload rfl rfl ?_
            refine z_if_lt rfl (by omega) (fun h8 => ?_) (fun h8 => ?_)
            · refine z_vret rfl rfl ?_
              exfalso
              omega
            · refine z_aload rfl rfl ?_
              refine z_getR (r := 9) rfl rfl (hR _ rm_8_1) ?_
              refine z_iload rfl rfl ?_
              refine z_iload rfl rfl ?_
              refine z_iast (e := v) rfl rfl (by decide) (by omega) rfl ?_
              refine z_vret rfl rfl ?_
              exact ⟨rfl, rfl, rfl, rfl⟩
    · refine z_pushI (z := (-1)) rfl rfl ?_
      refine z_iret rfl rfl ?_
      show zW _ _ _ _ _ _ _ _ _ _
      refine z_istore rfl rfl ?_
      refine z_iload rfl rfl ?_
      refine z_if_ltT rfl (by decide) (by decide) ?_
      refine z_vret rfl rfl ?_
      exfalso
      omega
theorem tell_g {X : Nat × (Nat → Int32)} {d : Nat} {J M : zA} {R : zR} {n p w v : Int} (hR : zRok R) (hz : J 8 2 = n) (hn : 0 ≤ n ∧ n ≤ 8) (hp : -2147483648 ≤ p ∧ p < 2147483648) (hw : -2147483648 ≤ w ∧ w < 2147483648) (hV : 5 ≤ w ∧ w < 14 ∧ p = 0) : zW X (d + 3) 91 0 (gEn 91 [(.ref 8), (zi p), (zi w), (zi v)]) [] J M R (zPx none (zU J 9 (40 + w) v) M R) := by
  show zW _ _ _ _ [some (.ref 8), some (zi p), some (zi w), some (zi v), none] _ _ _ _ _
  refine z_aload rfl rfl ?_
  refine z_iload rfl rfl ?_
  refine z_iload rfl rfl ?_
  refine z_callVi (As := [_, _]) (le := [some _, some _, some _]) rfl rfl rfl (Nat.le_of_ble_eq_true rfl) (Nat.le_of_ble_eq_true rfl) rfl ?_
  refine z_iload rfl rfl ?_
  refine z_if_lt rfl (by omega) (fun h1 => ?_) (fun h1 => ?_)
  · refine z_pushI (z := (-1)) rfl rfl ?_
    refine z_iret rfl rfl ?_
    show zW _ _ _ _ _ _ _ _ _ _
    refine z_istore rfl rfl ?_
    refine z_iload rfl rfl ?_
    refine z_if_ltT rfl (by decide) (by decide) ?_
    refine z_vret rfl rfl ?_
    exfalso
    omega
  · refine z_iload rfl rfl ?_
    refine z_pushI (z := 14) rfl rfl ?_
    refine z_icmp_lt rfl (by omega) (by decide) (fun h2 => ?_) (fun h2 => ?_)
    · refine z_iload rfl rfl ?_
      refine z_pushI (z := 5) rfl rfl ?_
      refine z_icmp_ge rfl (by omega) (by decide) (fun h3 => ?_) (fun h3 => ?_)
      · refine z_iload rfl rfl ?_
        refine z_if_ne rfl (by omega) (fun h4 => ?_) (fun h4 => ?_)
        · refine z_pushI (z := (-1)) rfl rfl ?_
          refine z_iret rfl rfl ?_
          show zW _ _ _ _ _ _ _ _ _ _
          refine z_istore rfl rfl ?_
          refine z_iload rfl rfl ?_
          refine z_if_ltT rfl (by decide) (by decide) ?_
          refine z_vret rfl rfl ?_
          exfalso
          omega
        · refine z_pushI (z := 40) rfl rfl ?_
          refine z_iload rfl rfl ?_
          refine z_iadd (e := 40 + w) rfl rfl ?_
          refine z_goto rfl ?_
          refine z_iret rfl rfl ?_
          show zW _ _ _ _ _ _ _ _ _ _
          refine z_istore rfl rfl ?_
          refine z_iload rfl rfl ?_
          refine z_if_lt rfl (by omega) (fun h5 => ?_) (fun h5 => ?_)
          · refine z_vret rfl rfl ?_
            exfalso
            omega
          · refine z_aload rfl rfl ?_
            refine z_getR (r := 9) rfl rfl (hR _ rm_8_1) ?_
            refine z_iload rfl rfl ?_
            refine z_iload rfl rfl ?_
            refine z_iast (e := v) rfl rfl (by decide) (by omega) rfl ?_
            refine z_vret rfl rfl ?_
            exact ⟨rfl, rfl, rfl, rfl⟩
      · refine z_aload rfl rfl ?_
        refine z_iload rfl rfl ?_
        refine z_callVi (As := [_]) (le := [some _, some _]) rfl rfl rfl (Nat.le_of_ble_eq_true rfl) (Nat.le_of_ble_eq_true rfl) rfl ?_
        refine z_iload rfl rfl ?_
        refine z_if_lt rfl (by omega) (fun h6 => ?_) (fun h6 => ?_)
        · refine z_pushI (z := 0) rfl rfl ?_
          refine z_bret rfl rfl (by decide) ?_
          show zW _ _ _ _ _ _ _ _ _ _
          refine z_if_eqT rfl (by decide) (by decide) ?_
          refine z_pushI (z := (-1)) rfl rfl ?_
          refine z_iret rfl rfl ?_
          show zW _ _ _ _ _ _ _ _ _ _
          refine z_istore rfl rfl ?_
          refine z_iload rfl rfl ?_
          refine z_if_ltT rfl (by decide) (by decide) ?_
          refine z_vret rfl rfl ?_
          exfalso
          omega
        · refine z_iload rfl rfl ?_
          refine z_aload rfl rfl ?_
          refine z_getI (v := n) rfl rfl (hz) ?_
          refine z_icmp_ge rfl (by omega) (by omega) (fun h7 => ?_) (fun h7 => ?_)
          · refine z_pushI (z := 0) rfl rfl ?_
            refine z_bret rfl rfl (by decide) ?_
            show zW _ _ _ _ _ _ _ _ _ _
            refine z_if_eqT rfl (by decide) (by decide) ?_
            refine z_pushI (z := (-1)) rfl rfl ?_
            refine z_iret rfl rfl ?_
            show zW _ _ _ _ _ _ _ _ _ _
            refine z_istore rfl rfl ?_
            refine z_iload rfl rfl ?_
            refine z_if_ltT rfl (by decide) (by decide) ?_
            refine z_vret rfl rfl ?_
            exfalso
            omega
          · refine z_pushI (z := 1) rfl rfl ?_
            refine z_goto rfl ?_
            refine z_bret rfl rfl (by decide) ?_
            show zW _ _ _ _ _ _ _ _ _ _
            refine z_if_eqF rfl (by decide) (by decide) ?_
            refine z_iload rfl rfl ?_
            refine z_pushI (z := 5) rfl rfl ?_
            refine z_imul (e := p * 5) rfl rfl ?_
            refine z_iload rfl rfl ?_
            refine z_iadd (e := p * 5 + w) rfl rfl ?_
            refine z_goto rfl ?_
            refine z_iret rfl rfl ?_
            show zW _ _ _ _ _ _ _ _ _ _
            refine z_istore rfl rfl ?_
            refine z_iload rfl rfl ?_
            refine z_if_lt rfl (by omega) (fun h8 => ?_) (fun h8 => ?_)
            · refine z_vret rfl rfl ?_
              exfalso
              omega
            · refine z_aload rfl rfl ?_
              refine z_getR (r := 9) rfl rfl (hR _ rm_8_1) ?_
              refine z_iload rfl rfl ?_
              refine z_iload rfl rfl ?_
              refine z_iast (e := v) rfl rfl (by decide) (by omega) rfl ?_
              refine z_vret rfl rfl ?_
              exfalso
              omega
    · refine z_pushI (z := (-1)) rfl rfl ?_
      refine z_iret rfl rfl ?_
      show zW _ _ _ _ _ _ _ _ _ _
      refine z_istore rfl rfl ?_
      refine z_iload rfl rfl ?_
      refine z_if_ltT rfl (by decide) (by decide) ?_
      refine z_vret rfl rfl ?_
      exfalso
      omega
theorem isOne_1 {X : Nat × (Nat → Int32)} {d : Nat} {J M : zA} {R : zR} {n p w : Int} (hR : zRoR R) (hz : J 50 1 = n) (hn : 0 ≤ n ∧ n ≤ 8) (hp : -2147483648 ≤ p ∧ p < 2147483648) (hw : -2147483648 ≤ w ∧ w < 2147483648) (hV : zV n p w) : zW X (d + 3) 160 0 (gEn 160 [(.ref 50), (zi p), (zi w)]) [] J M R (zPu (1) J M R) := by
  show zW _ _ _ _ [some (.ref 50), some (zi p), some (zi w)] _ _ _ _ _
  refine z_iload rfl rfl ?_
  refine z_pushI (z := 0) rfl rfl ?_
  refine z_pushI (z := 4) rfl rfl ?_
  refine z_callSi (As := [_, _, _]) (le := [some _, some _, some _]) rfl rfl (Nat.le_of_ble_eq_true rfl) (Nat.le_of_ble_eq_true rfl) rfl ?_
  refine z_iload rfl rfl ?_
  refine z_iload rfl rfl ?_
  refine z_icmp_lt rfl (by omega) (by decide) (fun h1 => ?_) (fun h1 => ?_)
  · refine z_pushI (z := 0) rfl rfl ?_
    refine z_bret rfl rfl (by decide) ?_
    show zW _ _ _ _ _ _ _ _ _ _
    refine z_if_eqT rfl (by decide) (by decide) ?_
    refine z_iload rfl rfl ?_
    refine z_pushI (z := 5) rfl rfl ?_
    refine z_pushI (z := 13) rfl rfl ?_
    refine z_callSi (As := [_, _, _]) (le := [some _, some _, some _]) rfl rfl (Nat.le_of_ble_eq_true rfl) (Nat.le_of_ble_eq_true rfl) rfl ?_
    refine z_iload rfl rfl ?_
    refine z_iload rfl rfl ?_
    refine z_icmp_lt rfl (by omega) (by decide) (fun h2 => ?_) (fun h2 => ?_)
    · refine z_pushI (z := 0) rfl rfl ?_
      refine z_bret rfl rfl (by decide) ?_
      show zW _ _ _ _ _ _ _ _ _ _
      refine z_if_eqT rfl (by decide) (by decide) ?_
      refine z_pushI (z := 0) rfl rfl ?_
      refine z_bret rfl rfl (by decide) ?_
      first | exact ⟨rfl, rfl, rfl, rfl⟩ | (exfalso; omega)
    · refine z_iload rfl rfl ?_
      refine z_iload rfl rfl ?_
      refine z_icmp_gt rfl (by omega) (by decide) (fun h3 => ?_) (fun h3 => ?_)
      · refine z_pushI (z := 0) rfl rfl ?_
        refine z_bret rfl rfl (by decide) ?_
        show zW _ _ _ _ _ _ _ _ _ _
        refine z_if_eqT rfl (by decide) (by decide) ?_
        refine z_pushI (z := 0) rfl rfl ?_
        refine z_bret rfl rfl (by decide) ?_
        first | exact ⟨rfl, rfl, rfl, rfl⟩ | (exfalso; omega)
      · refine z_pushI (z := 1) rfl rfl ?_
        refine z_goto rfl ?_
        refine z_bret rfl rfl (by decide) ?_
        show zW _ _ _ _ _ _ _ _ _ _
        refine z_if_eqF rfl (by decide) (by decide) ?_
        refine z_iload rfl rfl ?_
        refine z_if_ne rfl (by omega) (fun h4 => ?_) (fun h4 => ?_)
        · refine z_pushI (z := 0) rfl rfl ?_
          refine z_bret rfl rfl (by decide) ?_
          first | exact ⟨rfl, rfl, rfl, rfl⟩ | (exfalso; omega)
        · refine z_pushI (z := 1) rfl rfl ?_
          refine z_goto rfl ?_
          refine z_bret rfl rfl (by decide) ?_
          first | exact ⟨rfl, rfl, rfl, rfl⟩ | (exfalso; omega)
  · refine z_iload rfl rfl ?_
    refine z_iload rfl rfl ?_
    refine z_icmp_gt rfl (by omega) (by decide) (fun h5 => ?_) (fun h5 => ?_)
    · refine z_pushI (z := 0) rfl rfl ?_
      refine z_bret rfl rfl (by decide) ?_
      show zW _ _ _ _ _ _ _ _ _ _
      refine z_if_eqT rfl (by decide) (by decide) ?_
      refine z_iload rfl rfl ?_
      refine z_pushI (z := 5) rfl rfl ?_
      refine z_pushI (z := 13) rfl rfl ?_
      refine z_callSi (As := [_, _, _]) (le := [some _, some _, some _]) rfl rfl (Nat.le_of_ble_eq_true rfl) (Nat.le_of_ble_eq_true rfl) rfl ?_
      refine z_iload rfl rfl ?_
      refine z_iload rfl rfl ?_
      refine z_icmp_lt rfl (by omega) (by decide) (fun h6 => ?_) (fun h6 => ?_)
      · refine z_pushI (z := 0) rfl rfl ?_
        refine z_bret rfl rfl (by decide) ?_
        show zW _ _ _ _ _ _ _ _ _ _
        refine z_if_eqT rfl (by decide) (by decide) ?_
        refine z_pushI (z := 0) rfl rfl ?_
        refine z_bret rfl rfl (by decide) ?_
        first | exact ⟨rfl, rfl, rfl, rfl⟩ | (exfalso; omega)
      · refine z_iload rfl rfl ?_
        refine z_iload rfl rfl ?_
        refine z_icmp_gt rfl (by omega) (by decide) (fun h7 => ?_) (fun h7 => ?_)
        · refine z_pushI (z := 0) rfl rfl ?_
          refine z_bret rfl rfl (by decide) ?_
          show zW _ _ _ _ _ _ _ _ _ _
          refine z_if_eqT rfl (by decide) (by decide) ?_
          refine z_pushI (z := 0) rfl rfl ?_
          refine z_bret rfl rfl (by decide) ?_
          first | exact ⟨rfl, rfl, rfl, rfl⟩ | (exfalso; omega)
        · refine z_pushI (z := 1) rfl rfl ?_
          refine z_goto rfl ?_
          refine z_bret rfl rfl (by decide) ?_
          show zW _ _ _ _ _ _ _ _ _ _
          refine z_if_eqF rfl (by decide) (by decide) ?_
          refine z_iload rfl rfl ?_
          refine z_if_ne rfl (by omega) (fun h8 => ?_) (fun h8 => ?_)
          · refine z_pushI (z := 0) rfl rfl ?_
            refine z_bret rfl rfl (by decide) ?_
            first | exact ⟨rfl, rfl, rfl, rfl⟩ | (exfalso; omega)
          · refine z_pushI (z := 1) rfl rfl ?_
            refine z_goto rfl ?_
            refine z_bret rfl rfl (by decide) ?_
            first | exact ⟨rfl, rfl, rfl, rfl⟩ | (exfalso; omega)
    · refine z_pushI (z := 1) rfl rfl ?_
      refine z_goto rfl ?_
      refine z_bret rfl rfl (by decide) ?_
      show zW _ _ _ _ _ _ _ _ _ _
      refine z_if_eqF rfl (by decide) (by decide) ?_
      refine z_aload rfl rfl ?_
      refine z_iload rfl rfl ?_
      refine z_callVi (As := [_]) (le := [some _, some _]) rfl rfl rfl (Nat.le_of_ble_eq_true rfl) (Nat.le_of_ble_eq_true rfl) rfl ?_
      refine z_iload rfl rfl ?_
      refine z_pushI (z := 0) rfl rfl ?_
      refine z_aload rfl rfl ?_
      refine z_getI (v := n) rfl rfl (hz) ?_
      refine z_pushI (z := 1) rfl rfl ?_
      refine z_isub (e := n - 1) rfl rfl ?_
      refine z_callSi (As := [_, _, _]) (le := [some _, some _, some _]) rfl rfl (Nat.le_of_ble_eq_true rfl) (Nat.le_of_ble_eq_true rfl) rfl ?_
      refine z_iload rfl rfl ?_
      refine z_iload rfl rfl ?_
      refine z_icmp_lt rfl (by omega) (by decide) (fun h9 => ?_) (fun h9 => ?_)
      · refine z_pushI (z := 0) rfl rfl ?_
        refine z_bret rfl rfl (by decide) ?_
        show zW _ _ _ _ _ _ _ _ _ _
        refine z_bret rfl rfl (by decide) ?_
        show zW _ _ _ _ _ _ _ _ _ _
        refine z_goto rfl ?_
        refine z_bret rfl rfl (by decide) ?_
        first | exact ⟨rfl, rfl, rfl, rfl⟩ | (exfalso; omega)
      · refine z_iload rfl rfl ?_
        refine z_iload rfl rfl ?_
        refine z_icmp_gt rfl (by omega) (by omega) (fun h10 => ?_) (fun h10 => ?_)
        · refine z_pushI (z := 0) rfl rfl ?_
          refine z_bret rfl rfl (by decide) ?_
          show zW _ _ _ _ _ _ _ _ _ _
          refine z_bret rfl rfl (by decide) ?_
          show zW _ _ _ _ _ _ _ _ _ _
          refine z_goto rfl ?_
          refine z_bret rfl rfl (by decide) ?_
          first | exact ⟨rfl, rfl, rfl, rfl⟩ | (exfalso; omega)
        · refine z_pushI (z := 1) rfl rfl ?_
          refine z_goto rfl ?_
          refine z_bret rfl rfl (by decide) ?_
          show zW _ _ _ _ _ _ _ _ _ _
          refine z_bret rfl rfl (by decide) ?_
          show zW _ _ _ _ _ _ _ _ _ _
          refine z_goto rfl ?_
          refine z_bret rfl rfl (by decide) ?_
          first | exact ⟨rfl, rfl, rfl, rfl⟩ | (exfalso; omega)
theorem isOne_0 {X : Nat × (Nat → Int32)} {d : Nat} {J M : zA} {R : zR} {n p w : Int} (hR : zRoR R) (hz : J 50 1 = n) (hn : 0 ≤ n ∧ n ≤ 8) (hp : -2147483648 ≤ p ∧ p < 2147483648) (hw : -2147483648 ≤ w ∧ w < 2147483648) (hV : ¬ zV n p w) : zW X (d + 3) 160 0 (gEn 160 [(.ref 50), (zi p), (zi w)]) [] J M R (zPu (0) J M R) := by
  show zW _ _ _ _ [some (.ref 50), some (zi p), some (zi w)] _ _ _ _ _
  refine z_iload rfl rfl ?_
  refine z_pushI (z := 0) rfl rfl ?_
  refine z_pushI (z := 4) rfl rfl ?_
  refine z_callSi (As := [_, _, _]) (le := [some _, some _, some _]) rfl rfl (Nat.le_of_ble_eq_true rfl) (Nat.le_of_ble_eq_true rfl) rfl ?_
  refine z_iload rfl rfl ?_
  refine z_iload rfl rfl ?_
  refine z_icmp_lt rfl (by omega) (by decide) (fun h1 => ?_) (fun h1 => ?_)
  · refine z_pushI (z := 0) rfl rfl ?_
    refine z_bret rfl rfl (by decide) ?_
    show zW _ _ _ _ _ _ _ _ _ _
    refine z_if_eqT rfl (by decide) (by decide) ?_
    refine z_iload rfl rfl ?_
    refine z_pushI (z := 5) rfl rfl ?_
    refine z_pushI (z := 13) rfl rfl ?_
    refine z_callSi (As := [_, _, _]) (le := [some _, some _, some _]) rfl rfl (Nat.le_of_ble_eq_true rfl) (Nat.le_of_ble_eq_true rfl) rfl ?_
    refine z_iload rfl rfl ?_
    refine z_iload rfl rfl ?_
    refine z_icmp_lt rfl (by omega) (by decide) (fun h2 => ?_) (fun h2 => ?_)
    · refine z_pushI (z := 0) rfl rfl ?_
      refine z_bret rfl rfl (by decide) ?_
      show zW _ _ _ _ _ _ _ _ _ _
      refine z_if_eqT rfl (by decide) (by decide) ?_
      refine z_pushI (z := 0) rfl rfl ?_
      refine z_bret rfl rfl (by decide) ?_
      first | exact ⟨rfl, rfl, rfl, rfl⟩ | (exfalso; omega)
    · refine z_iload rfl rfl ?_
      refine z_iload rfl rfl ?_
      refine z_icmp_gt rfl (by omega) (by decide) (fun h3 => ?_) (fun h3 => ?_)
      · refine z_pushI (z := 0) rfl rfl ?_
        refine z_bret rfl rfl (by decide) ?_
        show zW _ _ _ _ _ _ _ _ _ _
        refine z_if_eqT rfl (by decide) (by decide) ?_
        refine z_pushI (z := 0) rfl rfl ?_
        refine z_bret rfl rfl (by decide) ?_
        first | exact ⟨rfl, rfl, rfl, rfl⟩ | (exfalso; omega)
      · refine z_pushI (z := 1) rfl rfl ?_
        refine z_goto rfl ?_
        refine z_bret rfl rfl (by decide) ?_
        show zW _ _ _ _ _ _ _ _ _ _
        refine z_if_eqF rfl (by decide) (by decide) ?_
        refine z_iload rfl rfl ?_
        refine z_if_ne rfl (by omega) (fun h4 => ?_) (fun h4 => ?_)
        · refine z_pushI (z := 0) rfl rfl ?_
          refine z_bret rfl rfl (by decide) ?_
          first | exact ⟨rfl, rfl, rfl, rfl⟩ | (exfalso; omega)
        · refine z_pushI (z := 1) rfl rfl ?_
          refine z_goto rfl ?_
          refine z_bret rfl rfl (by decide) ?_
          first | exact ⟨rfl, rfl, rfl, rfl⟩ | (exfalso; omega)
  · refine z_iload rfl rfl ?_
    refine z_iload rfl rfl ?_
    refine z_icmp_gt rfl (by omega) (by decide) (fun h5 => ?_) (fun h5 => ?_)
    · refine z_pushI (z := 0) rfl rfl ?_
      refine z_bret rfl rfl (by decide) ?_
      show zW _ _ _ _ _ _ _ _ _ _
      refine z_if_eqT rfl (by decide) (by decide) ?_
      refine z_iload rfl rfl ?_
      refine z_pushI (z := 5) rfl rfl ?_
      refine z_pushI (z := 13) rfl rfl ?_
      refine z_callSi (As := [_, _, _]) (le := [some _, some _, some _]) rfl rfl (Nat.le_of_ble_eq_true rfl) (Nat.le_of_ble_eq_true rfl) rfl ?_
      refine z_iload rfl rfl ?_
      refine z_iload rfl rfl ?_
      refine z_icmp_lt rfl (by omega) (by decide) (fun h6 => ?_) (fun h6 => ?_)
      · refine z_pushI (z := 0) rfl rfl ?_
        refine z_bret rfl rfl (by decide) ?_
        show zW _ _ _ _ _ _ _ _ _ _
        refine z_if_eqT rfl (by decide) (by decide) ?_
        refine z_pushI (z := 0) rfl rfl ?_
        refine z_bret rfl rfl (by decide) ?_
        first | exact ⟨rfl, rfl, rfl, rfl⟩ | (exfalso; omega)
      · refine z_iload rfl rfl ?_
        refine z_iload rfl rfl ?_
        refine z_icmp_gt rfl (by omega) (by decide) (fun h7 => ?_) (fun h7 => ?_)
        · refine z_pushI (z := 0) rfl rfl ?_
          refine z_bret rfl rfl (by decide) ?_
          show zW _ _ _ _ _ _ _ _ _ _
          refine z_if_eqT rfl (by decide) (by decide) ?_
          refine z_pushI (z := 0) rfl rfl ?_
          refine z_bret rfl rfl (by decide) ?_
          first | exact ⟨rfl, rfl, rfl, rfl⟩ | (exfalso; omega)
        · refine z_pushI (z := 1) rfl rfl ?_
          refine z_goto rfl ?_
          refine z_bret rfl rfl (by decide) ?_
          show zW _ _ _ _ _ _ _ _ _ _
          refine z_if_eqF rfl (by decide) (by decide) ?_
          refine z_iload rfl rfl ?_
          refine z_if_ne rfl (by omega) (fun h8 => ?_) (fun h8 => ?_)
          · refine z_pushI (z := 0) rfl rfl ?_
            refine z_bret rfl rfl (by decide) ?_
            first | exact ⟨rfl, rfl, rfl, rfl⟩ | (exfalso; omega)
          · refine z_pushI (z := 1) rfl rfl ?_
            refine z_goto rfl ?_
            refine z_bret rfl rfl (by decide) ?_
            first | exact ⟨rfl, rfl, rfl, rfl⟩ | (exfalso; omega)
    · refine z_pushI (z := 1) rfl rfl ?_
      refine z_goto rfl ?_
      refine z_bret rfl rfl (by decide) ?_
      show zW _ _ _ _ _ _ _ _ _ _
      refine z_if_eqF rfl (by decide) (by decide) ?_
      refine z_aload rfl rfl ?_
      refine z_iload rfl rfl ?_
      refine z_callVi (As := [_]) (le := [some _, some _]) rfl rfl rfl (Nat.le_of_ble_eq_true rfl) (Nat.le_of_ble_eq_true rfl) rfl ?_
      refine z_iload rfl rfl ?_
      refine z_pushI (z := 0) rfl rfl ?_
      refine z_aload rfl rfl ?_
      refine z_getI (v := n) rfl rfl (hz) ?_
      refine z_pushI (z := 1) rfl rfl ?_
      refine z_isub (e := n - 1) rfl rfl ?_
      refine z_callSi (As := [_, _, _]) (le := [some _, some _, some _]) rfl rfl (Nat.le_of_ble_eq_true rfl) (Nat.le_of_ble_eq_true rfl) rfl ?_
      refine z_iload rfl rfl ?_
      refine z_iload rfl rfl ?_
      refine z_icmp_lt rfl (by omega) (by decide) (fun h9 => ?_) (fun h9 => ?_)
      · refine z_pushI (z := 0) rfl rfl ?_
        refine z_bret rfl rfl (by decide) ?_
        show zW _ _ _ _ _ _ _ _ _ _
        refine z_bret rfl rfl (by decide) ?_
        show zW _ _ _ _ _ _ _ _ _ _
        refine z_goto rfl ?_
        refine z_bret rfl rfl (by decide) ?_
        first | exact ⟨rfl, rfl, rfl, rfl⟩ | (exfalso; omega)
      · refine z_iload rfl rfl ?_
        refine z_iload rfl rfl ?_
        refine z_icmp_gt rfl (by omega) (by omega) (fun h10 => ?_) (fun h10 => ?_)
        · refine z_pushI (z := 0) rfl rfl ?_
          refine z_bret rfl rfl (by decide) ?_
          show zW _ _ _ _ _ _ _ _ _ _
          refine z_bret rfl rfl (by decide) ?_
          show zW _ _ _ _ _ _ _ _ _ _
          refine z_goto rfl ?_
          refine z_bret rfl rfl (by decide) ?_
          first | exact ⟨rfl, rfl, rfl, rfl⟩ | (exfalso; omega)
        · refine z_pushI (z := 1) rfl rfl ?_
          refine z_goto rfl ?_
          refine z_bret rfl rfl (by decide) ?_
          show zW _ _ _ _ _ _ _ _ _ _
          refine z_bret rfl rfl (by decide) ?_
          show zW _ _ _ _ _ _ _ _ _ _
          refine z_goto rfl ?_
          refine z_bret rfl rfl (by decide) ?_
          first | exact ⟨rfl, rfl, rfl, rfl⟩ | (exfalso; omega)
theorem mayBe_1 {X : Nat × (Nat → Int32)} {d : Nat} {J M : zA} {R : zR} {v w : Int} (hv : -2147483648 ≤ v ∧ v < 2147483648) (hw : -2147483648 ≤ w ∧ w < 2147483648) (hw2 : 0 ≤ w ∧ w < 14) (hf : zT 2 w ≤ v ∧ v ≤ zT 3 w) : zW X (d + 1) 161 0 (gEn 161 [(zi w), (zi v)]) [] J M R (zPu (1) J M R) := by
  show zW _ _ _ _ [some (zi w), some (zi v)] _ _ _ _ _
  refine z_iload rfl rfl ?_
  refine z_sw (T := [((3 : Int), 60), ((4 : Int), 68), ((5 : Int), 144), ((6 : Int), 76), ((7 : Int), 85), ((8 : Int), 93), ((9 : Int), 102), ((10 : Int), 111), ((11 : Int), 119), ((12 : Int), 128), ((13 : Int), 136)]) rfl (by omega) rfl (fun q hq1 hxhq1 => ?_) (fun hq1 => ?_)
  · simp only [List.mem_cons, List.not_mem_nil, or_false] at hq1
    rcases hq1 with rfl | rfl | rfl | rfl | rfl | rfl | rfl | rfl | rfl | rfl | rfl
    · have hxhq1 : w = 3 := hxhq1
      have q2 := zFit_at2 (w := w) (c := 3) (lo := 0) (hi := 9) rfl rfl (by omega)
      refine z_iload rfl rfl ?_
      refine z_pushI (z := 0) rfl rfl ?_
      refine z_pushI (z := 9) rfl rfl ?_
      refine z_callSi (As := [_, _, _]) (le := [some _, some _, some _]) rfl rfl (Nat.le_of_ble_eq_true rfl) (Nat.le_of_ble_eq_true rfl) rfl ?_
      refine z_iload rfl rfl ?_
      refine z_iload rfl rfl ?_
      refine z_icmp_lt rfl (by omega) (by decide) (fun h3 => ?_) (fun h3 => ?_)
      · refine z_pushI (z := 0) rfl rfl ?_
        refine z_bret rfl rfl (by decide) ?_
        show zW _ _ _ _ _ _ _ _ _ _
        refine z_bret rfl rfl (by decide) ?_
        first | exact ⟨rfl, rfl, rfl, rfl⟩ | (exfalso; omega)
      · refine z_iload rfl rfl ?_
        refine z_iload rfl rfl ?_
        refine z_icmp_gt rfl (by omega) (by decide) (fun h4 => ?_) (fun h4 => ?_)
        · refine z_pushI (z := 0) rfl rfl ?_
          refine z_bret rfl rfl (by decide) ?_
          show zW _ _ _ _ _ _ _ _ _ _
          refine z_bret rfl rfl (by decide) ?_
          first | exact ⟨rfl, rfl, rfl, rfl⟩ | (exfalso; omega)
        · refine z_pushI (z := 1) rfl rfl ?_
          refine z_goto rfl ?_
          refine z_bret rfl rfl (by decide) ?_
          show zW _ _ _ _ _ _ _ _ _ _
          refine z_bret rfl rfl (by decide) ?_
          first | exact ⟨rfl, rfl, rfl, rfl⟩ | (exfalso; omega)
    · have hxhq1 : w = 4 := hxhq1
      have q5 := zFit_at2 (w := w) (c := 4) (lo := 0) (hi := 9) rfl rfl (by omega)
      refine z_iload rfl rfl ?_
      refine z_pushI (z := 0) rfl rfl ?_
      refine z_pushI (z := 9) rfl rfl ?_
      refine z_callSi (As := [_, _, _]) (le := [some _, some _, some _]) rfl rfl (Nat.le_of_ble_eq_true rfl) (Nat.le_of_ble_eq_true rfl) rfl ?_
      refine z_iload rfl rfl ?_
      refine z_iload rfl rfl ?_
      refine z_icmp_lt rfl (by omega) (by decide) (fun h6 => ?_) (fun h6 => ?_)
      · refine z_pushI (z := 0) rfl rfl ?_
        refine z_bret rfl rfl (by decide) ?_
        show zW _ _ _ _ _ _ _ _ _ _
        refine z_bret rfl rfl (by decide) ?_
        first | exact ⟨rfl, rfl, rfl, rfl⟩ | (exfalso; omega)
      · refine z_iload rfl rfl ?_
        refine z_iload rfl rfl ?_
        refine z_icmp_gt rfl (by omega) (by decide) (fun h7 => ?_) (fun h7 => ?_)
        · refine z_pushI (z := 0) rfl rfl ?_
          refine z_bret rfl rfl (by decide) ?_
          show zW _ _ _ _ _ _ _ _ _ _
          refine z_bret rfl rfl (by decide) ?_
          first | exact ⟨rfl, rfl, rfl, rfl⟩ | (exfalso; omega)
        · refine z_pushI (z := 1) rfl rfl ?_
          refine z_goto rfl ?_
          refine z_bret rfl rfl (by decide) ?_
          show zW _ _ _ _ _ _ _ _ _ _
          refine z_bret rfl rfl (by decide) ?_
          first | exact ⟨rfl, rfl, rfl, rfl⟩ | (exfalso; omega)
    · have hxhq1 : w = 5 := hxhq1
      have q8 := zFit_at2 (w := w) (c := 5) (lo := 0) (hi := 99) rfl rfl (by omega)
      refine z_iload rfl rfl ?_
      refine z_pushI (z := 0) rfl rfl ?_
      refine z_pushI (z := 99) rfl rfl ?_
      refine z_callSi (As := [_, _, _]) (le := [some _, some _, some _]) rfl rfl (Nat.le_of_ble_eq_true rfl) (Nat.le_of_ble_eq_true rfl) rfl ?_
      refine z_iload rfl rfl ?_
      refine z_iload rfl rfl ?_
      refine z_icmp_lt rfl (by omega) (by decide) (fun h9 => ?_) (fun h9 => ?_)
      · refine z_pushI (z := 0) rfl rfl ?_
        refine z_bret rfl rfl (by decide) ?_
        show zW _ _ _ _ _ _ _ _ _ _
        refine z_bret rfl rfl (by decide) ?_
        first | exact ⟨rfl, rfl, rfl, rfl⟩ | (exfalso; omega)
      · refine z_iload rfl rfl ?_
        refine z_iload rfl rfl ?_
        refine z_icmp_gt rfl (by omega) (by decide) (fun h10 => ?_) (fun h10 => ?_)
        · refine z_pushI (z := 0) rfl rfl ?_
          refine z_bret rfl rfl (by decide) ?_
          show zW _ _ _ _ _ _ _ _ _ _
          refine z_bret rfl rfl (by decide) ?_
          first | exact ⟨rfl, rfl, rfl, rfl⟩ | (exfalso; omega)
        · refine z_pushI (z := 1) rfl rfl ?_
          refine z_goto rfl ?_
          refine z_bret rfl rfl (by decide) ?_
          show zW _ _ _ _ _ _ _ _ _ _
          refine z_bret rfl rfl (by decide) ?_
          first | exact ⟨rfl, rfl, rfl, rfl⟩ | (exfalso; omega)
    · have hxhq1 : w = 6 := hxhq1
      have q11 := zFit_at2 (w := w) (c := 6) (lo := 0) (hi := 999) rfl rfl (by omega)
      refine z_iload rfl rfl ?_
      refine z_pushI (z := 0) rfl rfl ?_
      refine z_pushI (z := 999) rfl rfl ?_
      refine z_callSi (As := [_, _, _]) (le := [some _, some _, some _]) rfl rfl (Nat.le_of_ble_eq_true rfl) (Nat.le_of_ble_eq_true rfl) rfl ?_
      refine z_iload rfl rfl ?_
      refine z_iload rfl rfl ?_
      refine z_icmp_lt rfl (by omega) (by decide) (fun h12 => ?_) (fun h12 => ?_)
      · refine z_pushI (z := 0) rfl rfl ?_
        refine z_bret rfl rfl (by decide) ?_
        show zW _ _ _ _ _ _ _ _ _ _
        refine z_bret rfl rfl (by decide) ?_
        first | exact ⟨rfl, rfl, rfl, rfl⟩ | (exfalso; omega)
      · refine z_iload rfl rfl ?_
        refine z_iload rfl rfl ?_
        refine z_icmp_gt rfl (by omega) (by decide) (fun h13 => ?_) (fun h13 => ?_)
        · refine z_pushI (z := 0) rfl rfl ?_
          refine z_bret rfl rfl (by decide) ?_
          show zW _ _ _ _ _ _ _ _ _ _
          refine z_bret rfl rfl (by decide) ?_
          first | exact ⟨rfl, rfl, rfl, rfl⟩ | (exfalso; omega)
        · refine z_pushI (z := 1) rfl rfl ?_
          refine z_goto rfl ?_
          refine z_bret rfl rfl (by decide) ?_
          show zW _ _ _ _ _ _ _ _ _ _
          refine z_bret rfl rfl (by decide) ?_
          first | exact ⟨rfl, rfl, rfl, rfl⟩ | (exfalso; omega)
    · have hxhq1 : w = 7 := hxhq1
      have q14 := zFit_at2 (w := w) (c := 7) (lo := 1) (hi := 99) rfl rfl (by omega)
      refine z_iload rfl rfl ?_
      refine z_pushI (z := 1) rfl rfl ?_
      refine z_pushI (z := 99) rfl rfl ?_
      refine z_callSi (As := [_, _, _]) (le := [some _, some _, some _]) rfl rfl (Nat.le_of_ble_eq_true rfl) (Nat.le_of_ble_eq_true rfl) rfl ?_
      refine z_iload rfl rfl ?_
      refine z_iload rfl rfl ?_
      refine z_icmp_lt rfl (by omega) (by decide) (fun h15 => ?_) (fun h15 => ?_)
      · refine z_pushI (z := 0) rfl rfl ?_
        refine z_bret rfl rfl (by decide) ?_
        show zW _ _ _ _ _ _ _ _ _ _
        refine z_bret rfl rfl (by decide) ?_
        first | exact ⟨rfl, rfl, rfl, rfl⟩ | (exfalso; omega)
      · refine z_iload rfl rfl ?_
        refine z_iload rfl rfl ?_
        refine z_icmp_gt rfl (by omega) (by decide) (fun h16 => ?_) (fun h16 => ?_)
        · refine z_pushI (z := 0) rfl rfl ?_
          refine z_bret rfl rfl (by decide) ?_
          show zW _ _ _ _ _ _ _ _ _ _
          refine z_bret rfl rfl (by decide) ?_
          first | exact ⟨rfl, rfl, rfl, rfl⟩ | (exfalso; omega)
        · refine z_pushI (z := 1) rfl rfl ?_
          refine z_goto rfl ?_
          refine z_bret rfl rfl (by decide) ?_
          show zW _ _ _ _ _ _ _ _ _ _
          refine z_bret rfl rfl (by decide) ?_
          first | exact ⟨rfl, rfl, rfl, rfl⟩ | (exfalso; omega)
    · have hxhq1 : w = 8 := hxhq1
      have q17 := zFit_at2 (w := w) (c := 8) (lo := 0) (hi := 9999) rfl rfl (by omega)
      refine z_iload rfl rfl ?_
      refine z_pushI (z := 0) rfl rfl ?_
      refine z_pushI (z := 9999) rfl rfl ?_
      refine z_callSi (As := [_, _, _]) (le := [some _, some _, some _]) rfl rfl (Nat.le_of_ble_eq_true rfl) (Nat.le_of_ble_eq_true rfl) rfl ?_
      refine z_iload rfl rfl ?_
      refine z_iload rfl rfl ?_
      refine z_icmp_lt rfl (by omega) (by decide) (fun h18 => ?_) (fun h18 => ?_)
      · refine z_pushI (z := 0) rfl rfl ?_
        refine z_bret rfl rfl (by decide) ?_
        show zW _ _ _ _ _ _ _ _ _ _
        refine z_bret rfl rfl (by decide) ?_
        first | exact ⟨rfl, rfl, rfl, rfl⟩ | (exfalso; omega)
      · refine z_iload rfl rfl ?_
        refine z_iload rfl rfl ?_
        refine z_icmp_gt rfl (by omega) (by decide) (fun h19 => ?_) (fun h19 => ?_)
        · refine z_pushI (z := 0) rfl rfl ?_
          refine z_bret rfl rfl (by decide) ?_
          show zW _ _ _ _ _ _ _ _ _ _
          refine z_bret rfl rfl (by decide) ?_
          first | exact ⟨rfl, rfl, rfl, rfl⟩ | (exfalso; omega)
        · refine z_pushI (z := 1) rfl rfl ?_
          refine z_goto rfl ?_
          refine z_bret rfl rfl (by decide) ?_
          show zW _ _ _ _ _ _ _ _ _ _
          refine z_bret rfl rfl (by decide) ?_
          first | exact ⟨rfl, rfl, rfl, rfl⟩ | (exfalso; omega)
    · have hxhq1 : w = 9 := hxhq1
      have q20 := zFit_at2 (w := w) (c := 9) (lo := 0) (hi := 9999) rfl rfl (by omega)
      refine z_iload rfl rfl ?_
      refine z_pushI (z := 0) rfl rfl ?_
      refine z_pushI (z := 9999) rfl rfl ?_
      refine z_callSi (As := [_, _, _]) (le := [some _, some _, some _]) rfl rfl (Nat.le_of_ble_eq_true rfl) (Nat.le_of_ble_eq_true rfl) rfl ?_
      refine z_iload rfl rfl ?_
      refine z_iload rfl rfl ?_
      refine z_icmp_lt rfl (by omega) (by decide) (fun h21 => ?_) (fun h21 => ?_)
      · refine z_pushI (z := 0) rfl rfl ?_
        refine z_bret rfl rfl (by decide) ?_
        show zW _ _ _ _ _ _ _ _ _ _
        refine z_bret rfl rfl (by decide) ?_
        first | exact ⟨rfl, rfl, rfl, rfl⟩ | (exfalso; omega)
      · refine z_iload rfl rfl ?_
        refine z_iload rfl rfl ?_
        refine z_icmp_gt rfl (by omega) (by decide) (fun h22 => ?_) (fun h22 => ?_)
        · refine z_pushI (z := 0) rfl rfl ?_
          refine z_bret rfl rfl (by decide) ?_
          show zW _ _ _ _ _ _ _ _ _ _
          refine z_bret rfl rfl (by decide) ?_
          first | exact ⟨rfl, rfl, rfl, rfl⟩ | (exfalso; omega)
        · refine z_pushI (z := 1) rfl rfl ?_
          refine z_goto rfl ?_
          refine z_bret rfl rfl (by decide) ?_
          show zW _ _ _ _ _ _ _ _ _ _
          refine z_bret rfl rfl (by decide) ?_
          first | exact ⟨rfl, rfl, rfl, rfl⟩ | (exfalso; omega)
    · have hxhq1 : w = 10 := hxhq1
      have q23 := zFit_at2 (w := w) (c := 10) (lo := 0) (hi := 12) rfl rfl (by omega)
      refine z_iload rfl rfl ?_
      refine z_pushI (z := 0) rfl rfl ?_
      refine z_pushI (z := 12) rfl rfl ?_
      refine z_callSi (As := [_, _, _]) (le := [some _, some _, some _]) rfl rfl (Nat.le_of_ble_eq_true rfl) (Nat.le_of_ble_eq_true rfl) rfl ?_
      refine z_iload rfl rfl ?_
      refine z_iload rfl rfl ?_
      refine z_icmp_lt rfl (by omega) (by decide) (fun h24 => ?_) (fun h24 => ?_)
      · refine z_pushI (z := 0) rfl rfl ?_
        refine z_bret rfl rfl (by decide) ?_
        show zW _ _ _ _ _ _ _ _ _ _
        refine z_bret rfl rfl (by decide) ?_
        first | exact ⟨rfl, rfl, rfl, rfl⟩ | (exfalso; omega)
      · refine z_iload rfl rfl ?_
        refine z_iload rfl rfl ?_
        refine z_icmp_gt rfl (by omega) (by decide) (fun h25 => ?_) (fun h25 => ?_)
        · refine z_pushI (z := 0) rfl rfl ?_
          refine z_bret rfl rfl (by decide) ?_
          show zW _ _ _ _ _ _ _ _ _ _
          refine z_bret rfl rfl (by decide) ?_
          first | exact ⟨rfl, rfl, rfl, rfl⟩ | (exfalso; omega)
        · refine z_pushI (z := 1) rfl rfl ?_
          refine z_goto rfl ?_
          refine z_bret rfl rfl (by decide) ?_
          show zW _ _ _ _ _ _ _ _ _ _
          refine z_bret rfl rfl (by decide) ?_
          first | exact ⟨rfl, rfl, rfl, rfl⟩ | (exfalso; omega)
    · have hxhq1 : w = 11 := hxhq1
      have q26 := zFit_at2 (w := w) (c := 11) (lo := 0) (hi := 9999) rfl rfl (by omega)
      refine z_iload rfl rfl ?_
      refine z_pushI (z := 0) rfl rfl ?_
      refine z_pushI (z := 9999) rfl rfl ?_
      refine z_callSi (As := [_, _, _]) (le := [some _, some _, some _]) rfl rfl (Nat.le_of_ble_eq_true rfl) (Nat.le_of_ble_eq_true rfl) rfl ?_
      refine z_iload rfl rfl ?_
      refine z_iload rfl rfl ?_
      refine z_icmp_lt rfl (by omega) (by decide) (fun h27 => ?_) (fun h27 => ?_)
      · refine z_pushI (z := 0) rfl rfl ?_
        refine z_bret rfl rfl (by decide) ?_
        show zW _ _ _ _ _ _ _ _ _ _
        refine z_bret rfl rfl (by decide) ?_
        first | exact ⟨rfl, rfl, rfl, rfl⟩ | (exfalso; omega)
      · refine z_iload rfl rfl ?_
        refine z_iload rfl rfl ?_
        refine z_icmp_gt rfl (by omega) (by decide) (fun h28 => ?_) (fun h28 => ?_)
        · refine z_pushI (z := 0) rfl rfl ?_
          refine z_bret rfl rfl (by decide) ?_
          show zW _ _ _ _ _ _ _ _ _ _
          refine z_bret rfl rfl (by decide) ?_
          first | exact ⟨rfl, rfl, rfl, rfl⟩ | (exfalso; omega)
        · refine z_pushI (z := 1) rfl rfl ?_
          refine z_goto rfl ?_
          refine z_bret rfl rfl (by decide) ?_
          show zW _ _ _ _ _ _ _ _ _ _
          refine z_bret rfl rfl (by decide) ?_
          first | exact ⟨rfl, rfl, rfl, rfl⟩ | (exfalso; omega)
    · have hxhq1 : w = 12 := hxhq1
      have q29 := zFit_at2 (w := w) (c := 12) (lo := 1) (hi := 99) rfl rfl (by omega)
      refine z_iload rfl rfl ?_
      refine z_pushI (z := 1) rfl rfl ?_
      refine z_pushI (z := 99) rfl rfl ?_
      refine z_callSi (As := [_, _, _]) (le := [some _, some _, some _]) rfl rfl (Nat.le_of_ble_eq_true rfl) (Nat.le_of_ble_eq_true rfl) rfl ?_
      refine z_iload rfl rfl ?_
      refine z_iload rfl rfl ?_
      refine z_icmp_lt rfl (by omega) (by decide) (fun h30 => ?_) (fun h30 => ?_)
      · refine z_pushI (z := 0) rfl rfl ?_
        refine z_bret rfl rfl (by decide) ?_
        show zW _ _ _ _ _ _ _ _ _ _
        refine z_bret rfl rfl (by decide) ?_
        first | exact ⟨rfl, rfl, rfl, rfl⟩ | (exfalso; omega)
      · refine z_iload rfl rfl ?_
        refine z_iload rfl rfl ?_
        refine z_icmp_gt rfl (by omega) (by decide) (fun h31 => ?_) (fun h31 => ?_)
        · refine z_pushI (z := 0) rfl rfl ?_
          refine z_bret rfl rfl (by decide) ?_
          show zW _ _ _ _ _ _ _ _ _ _
          refine z_bret rfl rfl (by decide) ?_
          first | exact ⟨rfl, rfl, rfl, rfl⟩ | (exfalso; omega)
        · refine z_pushI (z := 1) rfl rfl ?_
          refine z_goto rfl ?_
          refine z_bret rfl rfl (by decide) ?_
          show zW _ _ _ _ _ _ _ _ _ _
          refine z_bret rfl rfl (by decide) ?_
          first | exact ⟨rfl, rfl, rfl, rfl⟩ | (exfalso; omega)
    · have hxhq1 : w = 13 := hxhq1
      have q32 := zFit_at2 (w := w) (c := 13) (lo := 1) (hi := 99) rfl rfl (by omega)
      refine z_iload rfl rfl ?_
      refine z_pushI (z := 1) rfl rfl ?_
      refine z_pushI (z := 99) rfl rfl ?_
      refine z_callSi (As := [_, _, _]) (le := [some _, some _, some _]) rfl rfl (Nat.le_of_ble_eq_true rfl) (Nat.le_of_ble_eq_true rfl) rfl ?_
      refine z_iload rfl rfl ?_
      refine z_iload rfl rfl ?_
      refine z_icmp_lt rfl (by omega) (by decide) (fun h33 => ?_) (fun h33 => ?_)
      · refine z_pushI (z := 0) rfl rfl ?_
        refine z_bret rfl rfl (by decide) ?_
        show zW _ _ _ _ _ _ _ _ _ _
        refine z_bret rfl rfl (by decide) ?_
        first | exact ⟨rfl, rfl, rfl, rfl⟩ | (exfalso; omega)
      · refine z_iload rfl rfl ?_
        refine z_iload rfl rfl ?_
        refine z_icmp_gt rfl (by omega) (by decide) (fun h34 => ?_) (fun h34 => ?_)
        · refine z_pushI (z := 0) rfl rfl ?_
          refine z_bret rfl rfl (by decide) ?_
          show zW _ _ _ _ _ _ _ _ _ _
          refine z_bret rfl rfl (by decide) ?_
          first | exact ⟨rfl, rfl, rfl, rfl⟩ | (exfalso; omega)
        · refine z_pushI (z := 1) rfl rfl ?_
          refine z_goto rfl ?_
          refine z_bret rfl rfl (by decide) ?_
          show zW _ _ _ _ _ _ _ _ _ _
          refine z_bret rfl rfl (by decide) ?_
          first | exact ⟨rfl, rfl, rfl, rfl⟩ | (exfalso; omega)
  · have hq1 : ∀ q ∈ [((3 : Int), 60), ((4 : Int), 68), ((5 : Int), 144), ((6 : Int), 76), ((7 : Int), 85), ((8 : Int), 93), ((9 : Int), 102), ((10 : Int), 111), ((11 : Int), 119), ((12 : Int), 128), ((13 : Int), 136)], ¬ w = q.1 := hq1
    have hq1_0 : ¬ w = 3 := hq1 (3, 60) (by simp)
    have hq1_1 : ¬ w = 4 := hq1 (4, 68) (by simp)
    have hq1_2 : ¬ w = 5 := hq1 (5, 144) (by simp)
    have hq1_3 : ¬ w = 6 := hq1 (6, 76) (by simp)
    have hq1_4 : ¬ w = 7 := hq1 (7, 85) (by simp)
    have hq1_5 : ¬ w = 8 := hq1 (8, 93) (by simp)
    have hq1_6 : ¬ w = 9 := hq1 (9, 102) (by simp)
    have hq1_7 : ¬ w = 10 := hq1 (10, 111) (by simp)
    have hq1_8 : ¬ w = 11 := hq1 (11, 119) (by simp)
    have hq1_9 : ¬ w = 12 := hq1 (12, 128) (by simp)
    have hq1_10 : ¬ w = 13 := hq1 (13, 136) (by simp)
    have q35 := zFit_d (w := w) (by omega)
    refine z_iload rfl rfl ?_
    refine z_pushI (z := 0) rfl rfl ?_
    refine z_pushI (z := 99) rfl rfl ?_
    refine z_callSi (As := [_, _, _]) (le := [some _, some _, some _]) rfl rfl (Nat.le_of_ble_eq_true rfl) (Nat.le_of_ble_eq_true rfl) rfl ?_
    refine z_iload rfl rfl ?_
    refine z_iload rfl rfl ?_
    refine z_icmp_lt rfl (by omega) (by decide) (fun h36 => ?_) (fun h36 => ?_)
    · refine z_pushI (z := 0) rfl rfl ?_
      refine z_bret rfl rfl (by decide) ?_
      show zW _ _ _ _ _ _ _ _ _ _
      refine z_bret rfl rfl (by decide) ?_
      first | exact ⟨rfl, rfl, rfl, rfl⟩ | (exfalso; omega)
    · refine z_iload rfl rfl ?_
      refine z_iload rfl rfl ?_
      refine z_icmp_gt rfl (by omega) (by decide) (fun h37 => ?_) (fun h37 => ?_)
      · refine z_pushI (z := 0) rfl rfl ?_
        refine z_bret rfl rfl (by decide) ?_
        show zW _ _ _ _ _ _ _ _ _ _
        refine z_bret rfl rfl (by decide) ?_
        first | exact ⟨rfl, rfl, rfl, rfl⟩ | (exfalso; omega)
      · refine z_pushI (z := 1) rfl rfl ?_
        refine z_goto rfl ?_
        refine z_bret rfl rfl (by decide) ?_
        show zW _ _ _ _ _ _ _ _ _ _
        refine z_bret rfl rfl (by decide) ?_
        first | exact ⟨rfl, rfl, rfl, rfl⟩ | (exfalso; omega)
theorem mayBe_0 {X : Nat × (Nat → Int32)} {d : Nat} {J M : zA} {R : zR} {v w : Int} (hv : -2147483648 ≤ v ∧ v < 2147483648) (hw : -2147483648 ≤ w ∧ w < 2147483648) (hw2 : 0 ≤ w ∧ w < 14) (hf : ¬ (zT 2 w ≤ v ∧ v ≤ zT 3 w)) : zW X (d + 1) 161 0 (gEn 161 [(zi w), (zi v)]) [] J M R (zPu (0) J M R) := by
  show zW _ _ _ _ [some (zi w), some (zi v)] _ _ _ _ _
  refine z_iload rfl rfl ?_
  refine z_sw (T := [((3 : Int), 60), ((4 : Int), 68), ((5 : Int), 144), ((6 : Int), 76), ((7 : Int), 85), ((8 : Int), 93), ((9 : Int), 102), ((10 : Int), 111), ((11 : Int), 119), ((12 : Int), 128), ((13 : Int), 136)]) rfl (by omega) rfl (fun q hq1 hxhq1 => ?_) (fun hq1 => ?_)
  · simp only [List.mem_cons, List.not_mem_nil, or_false] at hq1
    rcases hq1 with rfl | rfl | rfl | rfl | rfl | rfl | rfl | rfl | rfl | rfl | rfl
    · have hxhq1 : w = 3 := hxhq1
      have q2 := zFit_at2 (w := w) (c := 3) (lo := 0) (hi := 9) rfl rfl (by omega)
      refine z_iload rfl rfl ?_
      refine z_pushI (z := 0) rfl rfl ?_
      refine z_pushI (z := 9) rfl rfl ?_
      refine z_callSi (As := [_, _, _]) (le := [some _, some _, some _]) rfl rfl (Nat.le_of_ble_eq_true rfl) (Nat.le_of_ble_eq_true rfl) rfl ?_
      refine z_iload rfl rfl ?_
      refine z_iload rfl rfl ?_
      refine z_icmp_lt rfl (by omega) (by decide) (fun h3 => ?_) (fun h3 => ?_)
      · refine z_pushI (z := 0) rfl rfl ?_
        refine z_bret rfl rfl (by decide) ?_
        show zW _ _ _ _ _ _ _ _ _ _
        refine z_bret rfl rfl (by decide) ?_
        first | exact ⟨rfl, rfl, rfl, rfl⟩ | (exfalso; omega)
      · refine z_iload rfl rfl ?_
        refine z_iload rfl rfl ?_
        refine z_icmp_gt rfl (by omega) (by decide) (fun h4 => ?_) (fun h4 => ?_)
        · refine z_pushI (z := 0) rfl rfl ?_
          refine z_bret rfl rfl (by decide) ?_
          show zW _ _ _ _ _ _ _ _ _ _
          refine z_bret rfl rfl (by decide) ?_
          first | exact ⟨rfl, rfl, rfl, rfl⟩ | (exfalso; omega)
        · refine z_pushI (z := 1) rfl rfl ?_
          refine z_goto rfl ?_
          refine z_bret rfl rfl (by decide) ?_
          show zW _ _ _ _ _ _ _ _ _ _
          refine z_bret rfl rfl (by decide) ?_
          first | exact ⟨rfl, rfl, rfl, rfl⟩ | (exfalso; omega)
    · have hxhq1 : w = 4 := hxhq1
      have q5 := zFit_at2 (w := w) (c := 4) (lo := 0) (hi := 9) rfl rfl (by omega)
      refine z_iload rfl rfl ?_
      refine z_pushI (z := 0) rfl rfl ?_
      refine z_pushI (z := 9) rfl rfl ?_
      refine z_callSi (As := [_, _, _]) (le := [some _, some _, some _]) rfl rfl (Nat.le_of_ble_eq_true rfl) (Nat.le_of_ble_eq_true rfl) rfl ?_
      refine z_iload rfl rfl ?_
      refine z_iload rfl rfl ?_
      refine z_icmp_lt rfl (by omega) (by decide) (fun h6 => ?_) (fun h6 => ?_)
      · refine z_pushI (z := 0) rfl rfl ?_
        refine z_bret rfl rfl (by decide) ?_
        show zW _ _ _ _ _ _ _ _ _ _
        refine z_bret rfl rfl (by decide) ?_
        first | exact ⟨rfl, rfl, rfl, rfl⟩ | (exfalso; omega)
      · refine z_iload rfl rfl ?_
        refine z_iload rfl rfl ?_
        refine z_icmp_gt rfl (by omega) (by decide) (fun h7 => ?_) (fun h7 => ?_)
        · refine z_pushI (z := 0) rfl rfl ?_
          refine z_bret rfl rfl (by decide) ?_
          show zW _ _ _ _ _ _ _ _ _ _
          refine z_bret rfl rfl (by decide) ?_
          first | exact ⟨rfl, rfl, rfl, rfl⟩ | (exfalso; omega)
        · refine z_pushI (z := 1) rfl rfl ?_
          refine z_goto rfl ?_
          refine z_bret rfl rfl (by decide) ?_
          show zW _ _ _ _ _ _ _ _ _ _
          refine z_bret rfl rfl (by decide) ?_
          first | exact ⟨rfl, rfl, rfl, rfl⟩ | (exfalso; omega)
    · have hxhq1 : w = 5 := hxhq1
      have q8 := zFit_at2 (w := w) (c := 5) (lo := 0) (hi := 99) rfl rfl (by omega)
      refine z_iload rfl rfl ?_
      refine z_pushI (z := 0) rfl rfl ?_
      refine z_pushI (z := 99) rfl rfl ?_
      refine z_callSi (As := [_, _, _]) (le := [some _, some _, some _]) rfl rfl (Nat.le_of_ble_eq_true rfl) (Nat.le_of_ble_eq_true rfl) rfl ?_
      refine z_iload rfl rfl ?_
      refine z_iload rfl rfl ?_
      refine z_icmp_lt rfl (by omega) (by decide) (fun h9 => ?_) (fun h9 => ?_)
      · refine z_pushI (z := 0) rfl rfl ?_
        refine z_bret rfl rfl (by decide) ?_
        show zW _ _ _ _ _ _ _ _ _ _
        refine z_bret rfl rfl (by decide) ?_
        first | exact ⟨rfl, rfl, rfl, rfl⟩ | (exfalso; omega)
      · refine z_iload rfl rfl ?_
        refine z_iload rfl rfl ?_
        refine z_icmp_gt rfl (by omega) (by decide) (fun h10 => ?_) (fun h10 => ?_)
        · refine z_pushI (z := 0) rfl rfl ?_
          refine z_bret rfl rfl (by decide) ?_
          show zW _ _ _ _ _ _ _ _ _ _
          refine z_bret rfl rfl (by decide) ?_
          first | exact ⟨rfl, rfl, rfl, rfl⟩ | (exfalso; omega)
        · refine z_pushI (z := 1) rfl rfl ?_
          refine z_goto rfl ?_
          refine z_bret rfl rfl (by decide) ?_
          show zW _ _ _ _ _ _ _ _ _ _
          refine z_bret rfl rfl (by decide) ?_
          first | exact ⟨rfl, rfl, rfl, rfl⟩ | (exfalso; omega)
    · have hxhq1 : w = 6 := hxhq1
      have q11 := zFit_at2 (w := w) (c := 6) (lo := 0) (hi := 999) rfl rfl (by omega)
      refine z_iload rfl rfl ?_
      refine z_pushI (z := 0) rfl rfl ?_
      refine z_pushI (z := 999) rfl rfl ?_
      refine z_callSi (As := [_, _, _]) (le := [some _, some _, some _]) rfl rfl (Nat.le_of_ble_eq_true rfl) (Nat.le_of_ble_eq_true rfl) rfl ?_
      refine z_iload rfl rfl ?_
      refine z_iload rfl rfl ?_
      refine z_icmp_lt rfl (by omega) (by decide) (fun h12 => ?_) (fun h12 => ?_)
      · refine z_pushI (z := 0) rfl rfl ?_
        refine z_bret rfl rfl (by decide) ?_
        show zW _ _ _ _ _ _ _ _ _ _
        refine z_bret rfl rfl (by decide) ?_
        first | exact ⟨rfl, rfl, rfl, rfl⟩ | (exfalso; omega)
      · refine z_iload rfl rfl ?_
        refine z_iload rfl rfl ?_
        refine z_icmp_gt rfl (by omega) (by decide) (fun h13 => ?_) (fun h13 => ?_)
        · refine z_pushI (z := 0) rfl rfl ?_
          refine z_bret rfl rfl (by decide) ?_
          show zW _ _ _ _ _ _ _ _ _ _
          refine z_bret rfl rfl (by decide) ?_
          first | exact ⟨rfl, rfl, rfl, rfl⟩ | (exfalso; omega)
        · refine z_pushI (z := 1) rfl rfl ?_
          refine z_goto rfl ?_
          refine z_bret rfl rfl (by decide) ?_
          show zW _ _ _ _ _ _ _ _ _ _
          refine z_bret rfl rfl (by decide) ?_
          first | exact ⟨rfl, rfl, rfl, rfl⟩ | (exfalso; omega)
    · have hxhq1 : w = 7 := hxhq1
      have q14 := zFit_at2 (w := w) (c := 7) (lo := 1) (hi := 99) rfl rfl (by omega)
      refine z_iload rfl rfl ?_
      refine z_pushI (z := 1) rfl rfl ?_
      refine z_pushI (z := 99) rfl rfl ?_
      refine z_callSi (As := [_, _, _]) (le := [some _, some _, some _]) rfl rfl (Nat.le_of_ble_eq_true rfl) (Nat.le_of_ble_eq_true rfl) rfl ?_
      refine z_iload rfl rfl ?_
      refine z_iload rfl rfl ?_
      refine z_icmp_lt rfl (by omega) (by decide) (fun h15 => ?_) (fun h15 => ?_)
      · refine z_pushI (z := 0) rfl rfl ?_
        refine z_bret rfl rfl (by decide) ?_
        show zW _ _ _ _ _ _ _ _ _ _
        refine z_bret rfl rfl (by decide) ?_
        first | exact ⟨rfl, rfl, rfl, rfl⟩ | (exfalso; omega)
      · refine z_iload rfl rfl ?_
        refine z_iload rfl rfl ?_
        refine z_icmp_gt rfl (by omega) (by decide) (fun h16 => ?_) (fun h16 => ?_)
        · refine z_pushI (z := 0) rfl rfl ?_
          refine z_bret rfl rfl (by decide) ?_
          show zW _ _ _ _ _ _ _ _ _ _
          refine z_bret rfl rfl (by decide) ?_
          first | exact ⟨rfl, rfl, rfl, rfl⟩ | (exfalso; omega)
        · refine z_pushI (z := 1) rfl rfl ?_
          refine z_goto rfl ?_
          refine z_bret rfl rfl (by decide) ?_
          show zW _ _ _ _ _ _ _ _ _ _
          refine z_bret rfl rfl (by decide) ?_
          first | exact ⟨rfl, rfl, rfl, rfl⟩ | (exfalso; omega)
    · have hxhq1 : w = 8 := hxhq1
      have q17 := zFit_at2 (w := w) (c := 8) (lo := 0) (hi := 9999) rfl rfl (by omega)
      refine z_iload rfl rfl ?_
      refine z_pushI (z := 0) rfl rfl ?_
      refine z_pushI (z := 9999) rfl rfl ?_
      refine z_callSi (As := [_, _, _]) (le := [some _, some _, some _]) rfl rfl (Nat.le_of_ble_eq_true rfl) (Nat.le_of_ble_eq_true rfl) rfl ?_
      refine z_iload rfl rfl ?_
      refine z_iload rfl rfl ?_
      refine z_icmp_lt rfl (by omega) (by decide) (fun h18 => ?_) (fun h18 => ?_)
      · refine z_pushI (z := 0) rfl rfl ?_
        refine z_bret rfl rfl (by decide) ?_
        show zW _ _ _ _ _ _ _ _ _ _
        refine z_bret rfl rfl (by decide) ?_
        first | exact ⟨rfl, rfl, rfl, rfl⟩ | (exfalso; omega)
      · refine z_iload rfl rfl ?_
        refine z_iload rfl rfl ?_
        refine z_icmp_gt rfl (by omega) (by decide) (fun h19 => ?_) (fun h19 => ?_)
        · refine z_pushI (z := 0) rfl rfl ?_
          refine z_bret rfl rfl (by decide) ?_
          show zW _ _ _ _ _ _ _ _ _ _
          refine z_bret rfl rfl (by decide) ?_
          first | exact ⟨rfl, rfl, rfl, rfl⟩ | (exfalso; omega)
        · refine z_pushI (z := 1) rfl rfl ?_
          refine z_goto rfl ?_
          refine z_bret rfl rfl (by decide) ?_
          show zW _ _ _ _ _ _ _ _ _ _
          refine z_bret rfl rfl (by decide) ?_
          first | exact ⟨rfl, rfl, rfl, rfl⟩ | (exfalso; omega)
    · have hxhq1 : w = 9 := hxhq1
      have q20 := zFit_at2 (w := w) (c := 9) (lo := 0) (hi := 9999) rfl rfl (by omega)
      refine z_iload rfl rfl ?_
      refine z_pushI (z := 0) rfl rfl ?_
      refine z_pushI (z := 9999) rfl rfl ?_
      refine z_callSi (As := [_, _, _]) (le := [some _, some _, some _]) rfl rfl (Nat.le_of_ble_eq_true rfl) (Nat.le_of_ble_eq_true rfl) rfl ?_
      refine z_iload rfl rfl ?_
      refine z_iload rfl rfl ?_
      refine z_icmp_lt rfl (by omega) (by decide) (fun h21 => ?_) (fun h21 => ?_)
      · refine z_pushI (z := 0) rfl rfl ?_
        refine z_bret rfl rfl (by decide) ?_
        show zW _ _ _ _ _ _ _ _ _ _
        refine z_bret rfl rfl (by decide) ?_
        first | exact ⟨rfl, rfl, rfl, rfl⟩ | (exfalso; omega)
      · refine z_iload rfl rfl ?_
        refine z_iload rfl rfl ?_
        refine z_icmp_gt rfl (by omega) (by decide) (fun h22 => ?_) (fun h22 => ?_)
        · refine z_pushI (z := 0) rfl rfl ?_
          refine z_bret rfl rfl (by decide) ?_
          show zW _ _ _ _ _ _ _ _ _ _
          refine z_bret rfl rfl (by decide) ?_
          first | exact ⟨rfl, rfl, rfl, rfl⟩ | (exfalso; omega)
        · refine z_pushI (z := 1) rfl rfl ?_
          refine z_goto rfl ?_
          refine z_bret rfl rfl (by decide) ?_
          show zW _ _ _ _ _ _ _ _ _ _
          refine z_bret rfl rfl (by decide) ?_
          first | exact ⟨rfl, rfl, rfl, rfl⟩ | (exfalso; omega)
    · have hxhq1 : w = 10 := hxhq1
      have q23 := zFit_at2 (w := w) (c := 10) (lo := 0) (hi := 12) rfl rfl (by omega)
      refine z_iload rfl rfl ?_
      refine z_pushI (z := 0) rfl rfl ?_
      refine z_pushI (z := 12) rfl rfl ?_
      refine z_callSi (As := [_, _, _]) (le := [some _, some _, some _]) rfl rfl (Nat.le_of_ble_eq_true rfl) (Nat.le_of_ble_eq_true rfl) rfl ?_
      refine z_iload rfl rfl ?_
      refine z_iload rfl rfl ?_
      refine z_icmp_lt rfl (by omega) (by decide) (fun h24 => ?_) (fun h24 => ?_)
      · refine z_pushI (z := 0) rfl rfl ?_
        refine z_bret rfl rfl (by decide) ?_
        show zW _ _ _ _ _ _ _ _ _ _
        refine z_bret rfl rfl (by decide) ?_
        first | exact ⟨rfl, rfl, rfl, rfl⟩ | (exfalso; omega)
      · refine z_iload rfl rfl ?_
        refine z_iload rfl rfl ?_
        refine z_icmp_gt rfl (by omega) (by decide) (fun h25 => ?_) (fun h25 => ?_)
        · refine z_pushI (z := 0) rfl rfl ?_
          refine z_bret rfl rfl (by decide) ?_
          show zW _ _ _ _ _ _ _ _ _ _
          refine z_bret rfl rfl (by decide) ?_
          first | exact ⟨rfl, rfl, rfl, rfl⟩ | (exfalso; omega)
        · refine z_pushI (z := 1) rfl rfl ?_
          refine z_goto rfl ?_
          refine z_bret rfl rfl (by decide) ?_
          show zW _ _ _ _ _ _ _ _ _ _
          refine z_bret rfl rfl (by decide) ?_
          first | exact ⟨rfl, rfl, rfl, rfl⟩ | (exfalso; omega)
    · have hxhq1 : w = 11 := hxhq1
      have q26 := zFit_at2 (w := w) (c := 11) (lo := 0) (hi := 9999) rfl rfl (by omega)
      refine z_iload rfl rfl ?_
      refine z_pushI (z := 0) rfl rfl ?_
      refine z_pushI (z := 9999) rfl rfl ?_
      refine z_callSi (As := [_, _, _]) (le := [some _, some _, some _]) rfl rfl (Nat.le_of_ble_eq_true rfl) (Nat.le_of_ble_eq_true rfl) rfl ?_
      refine z_iload rfl rfl ?_
      refine z_iload rfl rfl ?_
      refine z_icmp_lt rfl (by omega) (by decide) (fun h27 => ?_) (fun h27 => ?_)
      · refine z_pushI (z := 0) rfl rfl ?_
        refine z_bret rfl rfl (by decide) ?_
        show zW _ _ _ _ _ _ _ _ _ _
        refine z_bret rfl rfl (by decide) ?_
        first | exact ⟨rfl, rfl, rfl, rfl⟩ | (exfalso; omega)
      · refine z_iload rfl rfl ?_
        refine z_iload rfl rfl ?_
        refine z_icmp_gt rfl (by omega) (by decide) (fun h28 => ?_) (fun h28 => ?_)
        · refine z_pushI (z := 0) rfl rfl ?_
          refine z_bret rfl rfl (by decide) ?_
          show zW _ _ _ _ _ _ _ _ _ _
          refine z_bret rfl rfl (by decide) ?_
          first | exact ⟨rfl, rfl, rfl, rfl⟩ | (exfalso; omega)
        · refine z_pushI (z := 1) rfl rfl ?_
          refine z_goto rfl ?_
          refine z_bret rfl rfl (by decide) ?_
          show zW _ _ _ _ _ _ _ _ _ _
          refine z_bret rfl rfl (by decide) ?_
          first | exact ⟨rfl, rfl, rfl, rfl⟩ | (exfalso; omega)
    · have hxhq1 : w = 12 := hxhq1
      have q29 := zFit_at2 (w := w) (c := 12) (lo := 1) (hi := 99) rfl rfl (by omega)
      refine z_iload rfl rfl ?_
      refine z_pushI (z := 1) rfl rfl ?_
      refine z_pushI (z := 99) rfl rfl ?_
      refine z_callSi (As := [_, _, _]) (le := [some _, some _, some _]) rfl rfl (Nat.le_of_ble_eq_true rfl) (Nat.le_of_ble_eq_true rfl) rfl ?_
      refine z_iload rfl rfl ?_
      refine z_iload rfl rfl ?_
      refine z_icmp_lt rfl (by omega) (by decide) (fun h30 => ?_) (fun h30 => ?_)
      · refine z_pushI (z := 0) rfl rfl ?_
        refine z_bret rfl rfl (by decide) ?_
        show zW _ _ _ _ _ _ _ _ _ _
        refine z_bret rfl rfl (by decide) ?_
        first | exact ⟨rfl, rfl, rfl, rfl⟩ | (exfalso; omega)
      · refine z_iload rfl rfl ?_
        refine z_iload rfl rfl ?_
        refine z_icmp_gt rfl (by omega) (by decide) (fun h31 => ?_) (fun h31 => ?_)
        · refine z_pushI (z := 0) rfl rfl ?_
          refine z_bret rfl rfl (by decide) ?_
          show zW _ _ _ _ _ _ _ _ _ _
          refine z_bret rfl rfl (by decide) ?_
          first | exact ⟨rfl, rfl, rfl, rfl⟩ | (exfalso; omega)
        · refine z_pushI (z := 1) rfl rfl ?_
          refine z_goto rfl ?_
          refine z_bret rfl rfl (by decide) ?_
          show zW _ _ _ _ _ _ _ _ _ _
          refine z_bret rfl rfl (by decide) ?_
          first | exact ⟨rfl, rfl, rfl, rfl⟩ | (exfalso; omega)
    · have hxhq1 : w = 13 := hxhq1
      have q32 := zFit_at2 (w := w) (c := 13) (lo := 1) (hi := 99) rfl rfl (by omega)
      refine z_iload rfl rfl ?_
      refine z_pushI (z := 1) rfl rfl ?_
      refine z_pushI (z := 99) rfl rfl ?_
      refine z_callSi (As := [_, _, _]) (le := [some _, some _, some _]) rfl rfl (Nat.le_of_ble_eq_true rfl) (Nat.le_of_ble_eq_true rfl) rfl ?_
      refine z_iload rfl rfl ?_
      refine z_iload rfl rfl ?_
      refine z_icmp_lt rfl (by omega) (by decide) (fun h33 => ?_) (fun h33 => ?_)
      · refine z_pushI (z := 0) rfl rfl ?_
        refine z_bret rfl rfl (by decide) ?_
        show zW _ _ _ _ _ _ _ _ _ _
        refine z_bret rfl rfl (by decide) ?_
        first | exact ⟨rfl, rfl, rfl, rfl⟩ | (exfalso; omega)
      · refine z_iload rfl rfl ?_
        refine z_iload rfl rfl ?_
        refine z_icmp_gt rfl (by omega) (by decide) (fun h34 => ?_) (fun h34 => ?_)
        · refine z_pushI (z := 0) rfl rfl ?_
          refine z_bret rfl rfl (by decide) ?_
          show zW _ _ _ _ _ _ _ _ _ _
          refine z_bret rfl rfl (by decide) ?_
          first | exact ⟨rfl, rfl, rfl, rfl⟩ | (exfalso; omega)
        · refine z_pushI (z := 1) rfl rfl ?_
          refine z_goto rfl ?_
          refine z_bret rfl rfl (by decide) ?_
          show zW _ _ _ _ _ _ _ _ _ _
          refine z_bret rfl rfl (by decide) ?_
          first | exact ⟨rfl, rfl, rfl, rfl⟩ | (exfalso; omega)
  · have hq1 : ∀ q ∈ [((3 : Int), 60), ((4 : Int), 68), ((5 : Int), 144), ((6 : Int), 76), ((7 : Int), 85), ((8 : Int), 93), ((9 : Int), 102), ((10 : Int), 111), ((11 : Int), 119), ((12 : Int), 128), ((13 : Int), 136)], ¬ w = q.1 := hq1
    have hq1_0 : ¬ w = 3 := hq1 (3, 60) (by simp)
    have hq1_1 : ¬ w = 4 := hq1 (4, 68) (by simp)
    have hq1_2 : ¬ w = 5 := hq1 (5, 144) (by simp)
    have hq1_3 : ¬ w = 6 := hq1 (6, 76) (by simp)
    have hq1_4 : ¬ w = 7 := hq1 (7, 85) (by simp)
    have hq1_5 : ¬ w = 8 := hq1 (8, 93) (by simp)
    have hq1_6 : ¬ w = 9 := hq1 (9, 102) (by simp)
    have hq1_7 : ¬ w = 10 := hq1 (10, 111) (by simp)
    have hq1_8 : ¬ w = 11 := hq1 (11, 119) (by simp)
    have hq1_9 : ¬ w = 12 := hq1 (12, 128) (by simp)
    have hq1_10 : ¬ w = 13 := hq1 (13, 136) (by simp)
    have q35 := zFit_d (w := w) (by omega)
    refine z_iload rfl rfl ?_
    refine z_pushI (z := 0) rfl rfl ?_
    refine z_pushI (z := 99) rfl rfl ?_
    refine z_callSi (As := [_, _, _]) (le := [some _, some _, some _]) rfl rfl (Nat.le_of_ble_eq_true rfl) (Nat.le_of_ble_eq_true rfl) rfl ?_
    refine z_iload rfl rfl ?_
    refine z_iload rfl rfl ?_
    refine z_icmp_lt rfl (by omega) (by decide) (fun h36 => ?_) (fun h36 => ?_)
    · refine z_pushI (z := 0) rfl rfl ?_
      refine z_bret rfl rfl (by decide) ?_
      show zW _ _ _ _ _ _ _ _ _ _
      refine z_bret rfl rfl (by decide) ?_
      first | exact ⟨rfl, rfl, rfl, rfl⟩ | (exfalso; omega)
    · refine z_iload rfl rfl ?_
      refine z_iload rfl rfl ?_
      refine z_icmp_gt rfl (by omega) (by decide) (fun h37 => ?_) (fun h37 => ?_)
      · refine z_pushI (z := 0) rfl rfl ?_
        refine z_bret rfl rfl (by decide) ?_
        show zW _ _ _ _ _ _ _ _ _ _
        refine z_bret rfl rfl (by decide) ?_
        first | exact ⟨rfl, rfl, rfl, rfl⟩ | (exfalso; omega)
      · refine z_pushI (z := 1) rfl rfl ?_
        refine z_goto rfl ?_
        refine z_bret rfl rfl (by decide) ?_
        show zW _ _ _ _ _ _ _ _ _ _
        refine z_bret rfl rfl (by decide) ?_
        first | exact ⟨rfl, rfl, rfl, rfl⟩ | (exfalso; omega)
theorem rg_s {A J : zA} {N : Int → Int → Int} (h : zK kT A J) (hA : rN A = N) {w : Int} (hw : 5 ≤ w ∧ w < 14) : J 56 (w - 5) = N 0 w := (h 56 (w - 5) rfl).trans (by subst hA; exact (rN_g hw).symm)
theorem valueAt_s {X : Nat × (Nat → Int32)} {d : Nat} {J M : zA} {R : zR} {N : Int → Int → Int} {n : Int} (hR : zRoR R) (hA : rN J = N) (hz : J 50 1 = n) (hN : zNr n N) {p w : Int} (hp : -2147483648 ≤ p ∧ p < 2147483648) (hw : -2147483648 ≤ w ∧ w < 2147483648) (hV : zV n p w) : zW X (d + 1) 155 0 (gEn 155 [(.ref 50), (zi w), (zi p)]) [] J M R (zPu (N p w) J M R) := by
  have hJ : zK kT J J := zK_r
  have q0 := zNn hN
  show zW _ _ _ _ [some (.ref 50), some (zi w), some (zi p)] _ _ _ _ _
  refine z_iload rfl rfl ?_
  refine z_sw (T := [((0 : Int), 36), ((1 : Int), 43), ((2 : Int), 50), ((3 : Int), 57), ((4 : Int), 64)]) rfl (by omega) rfl (fun q hq1 hxhq1 => ?_) (fun hq1 => ?_)
  · simp only [List.mem_cons, List.not_mem_nil, or_false] at hq1
    rcases hq1 with rfl | rfl | rfl | rfl | rfl
    · have hxhq1 : w = 0 := hxhq1
      refine z_aload rfl rfl ?_
      refine z_getR (r := 51) rfl rfl (hR _ rm_50_2 (by decide)) ?_
      refine z_iload rfl rfl ?_
      refine z_iald (v := N p 0) rfl rfl (by decide) (by omega) (rd_0 hJ hA hz (by omega)) ?_
      refine z_iret rfl rfl ?_
      rw [show w = 0 by omega]
      exact ⟨rfl, rfl, rfl, rfl⟩
    · have hxhq1 : w = 1 := hxhq1
      refine z_aload rfl rfl ?_
      refine z_getR (r := 52) rfl rfl (hR _ rm_50_3 (by decide)) ?_
      refine z_iload rfl rfl ?_
      refine z_iald (v := N p 1) rfl rfl (by decide) (by omega) (rd_1 hJ hA hz (by omega)) ?_
      refine z_iret rfl rfl ?_
      rw [show w = 1 by omega]
      exact ⟨rfl, rfl, rfl, rfl⟩
    · have hxhq1 : w = 2 := hxhq1
      refine z_aload rfl rfl ?_
      refine z_getR (r := 53) rfl rfl (hR _ rm_50_4 (by decide)) ?_
      refine z_iload rfl rfl ?_
      refine z_iald (v := N p 2) rfl rfl (by decide) (by omega) (rd_2 hJ hA hz (by omega)) ?_
      refine z_iret rfl rfl ?_
      rw [show w = 2 by omega]
      exact ⟨rfl, rfl, rfl, rfl⟩
    · have hxhq1 : w = 3 := hxhq1
      refine z_aload rfl rfl ?_
      refine z_getR (r := 54) rfl rfl (hR _ rm_50_5 (by decide)) ?_
      refine z_iload rfl rfl ?_
      refine z_iald (v := N p 3) rfl rfl (by decide) (by omega) (rd_3 hJ hA hz (by omega)) ?_
      refine z_iret rfl rfl ?_
      rw [show w = 3 by omega]
      exact ⟨rfl, rfl, rfl, rfl⟩
    · have hxhq1 : w = 4 := hxhq1
      refine z_aload rfl rfl ?_
      refine z_getR (r := 55) rfl rfl (hR _ rm_50_6 (by decide)) ?_
      refine z_iload rfl rfl ?_
      refine z_iald (v := N p 4) rfl rfl (by decide) (by omega) (rd_4 hJ hA hz (by omega)) ?_
      refine z_iret rfl rfl ?_
      rw [show w = 4 by omega]
      exact ⟨rfl, rfl, rfl, rfl⟩
  · have hq1 : ∀ q ∈ [((0 : Int), 36), ((1 : Int), 43), ((2 : Int), 50), ((3 : Int), 57), ((4 : Int), 64)], ¬ w = q.1 := hq1
    have hq1_0 : ¬ w = 0 := hq1 (0, 36) (by simp)
    have hq1_1 : ¬ w = 1 := hq1 (1, 43) (by simp)
    have hq1_2 : ¬ w = 2 := hq1 (2, 50) (by simp)
    have hq1_3 : ¬ w = 3 := hq1 (3, 57) (by simp)
    have hq1_4 : ¬ w = 4 := hq1 (4, 64) (by simp)
    refine z_aload rfl rfl ?_
    refine z_getR (r := 56) rfl rfl (hR _ rm_50_7 (by decide)) ?_
    refine z_iload rfl rfl ?_
    refine z_pushI (z := 5) rfl rfl ?_
    refine z_isub (e := w - 5) rfl rfl ?_
    refine z_iald (v := N 0 w) rfl rfl (by decide) (by omega) (rg_s hJ hA (by omega)) ?_
    refine z_iret rfl rfl ?_
    rw [show p = 0 by omega]
    exact ⟨rfl, rfl, rfl, rfl⟩
theorem lays_p {X : Nat × (Nat → Int32)} {d : Nat} {J M : zA} {R : zR} {n p w v : Int} (hR : zRoR R) (hz : J 50 1 = n) (hn : 0 ≤ n ∧ n ≤ 8) (hp : -2147483648 ≤ p ∧ p < 2147483648) (hw : -2147483648 ≤ w ∧ w < 2147483648) (hV : 0 ≤ w ∧ w < 5 ∧ 0 ≤ p ∧ p < n) : zW X (d + 1) 156 0 (gEn 156 [(.ref 50), (zi w), (zi p), (zi v)]) [] J M R (zPx none (zU J (51 + w.toNat) p v) M R) := by
  show zW _ _ _ _ [some (.ref 50), some (zi w), some (zi p), some (zi v)] _ _ _ _ _
  refine z_iload rfl rfl ?_
  refine z_sw (T := [((0 : Int), 36), ((1 : Int), 46), ((2 : Int), 56), ((3 : Int), 66), ((4 : Int), 76)]) rfl (by omega) rfl (fun q hq1 hxhq1 => ?_) (fun hq1 => ?_)
  · simp only [List.mem_cons, List.not_mem_nil, or_false] at hq1
    rcases hq1 with rfl | rfl | rfl | rfl | rfl
    · have hxhq1 : w = 0 := hxhq1
      refine z_aload rfl rfl ?_
      refine z_getR (r := 51) rfl rfl (hR _ rm_50_2 (by decide)) ?_
      refine z_iload rfl rfl ?_
      refine z_iload rfl rfl ?_
      refine z_iast (e := v) rfl rfl (by decide) (by omega) rfl ?_
      refine z_goto rfl ?_
      refine z_vret rfl rfl ?_
      rw [show w.toNat = 0 by omega]
      exact ⟨rfl, rfl, rfl, rfl⟩
    · have hxhq1 : w = 1 := hxhq1
      refine z_aload rfl rfl ?_
      refine z_getR (r := 52) rfl rfl (hR _ rm_50_3 (by decide)) ?_
      refine z_iload rfl rfl ?_
      refine z_iload rfl rfl ?_
      refine z_iast (e := v) rfl rfl (by decide) (by omega) rfl ?_
      refine z_goto rfl ?_
      refine z_vret rfl rfl ?_
      rw [show w.toNat = 1 by omega]
      exact ⟨rfl, rfl, rfl, rfl⟩
    · have hxhq1 : w = 2 := hxhq1
      refine z_aload rfl rfl ?_
      refine z_getR (r := 53) rfl rfl (hR _ rm_50_4 (by decide)) ?_
      refine z_iload rfl rfl ?_
      refine z_iload rfl rfl ?_
      refine z_iast (e := v) rfl rfl (by decide) (by omega) rfl ?_
      refine z_goto rfl ?_
      refine z_vret rfl rfl ?_
      rw [show w.toNat = 2 by omega]
      exact ⟨rfl, rfl, rfl, rfl⟩
    · have hxhq1 : w = 3 := hxhq1
      refine z_aload rfl rfl ?_
      refine z_getR (r := 54) rfl rfl (hR _ rm_50_5 (by decide)) ?_
      refine z_iload rfl rfl ?_
      refine z_iload rfl rfl ?_
      refine z_iast (e := v) rfl rfl (by decide) (by omega) rfl ?_
      refine z_goto rfl ?_
      refine z_vret rfl rfl ?_
      rw [show w.toNat = 3 by omega]
      exact ⟨rfl, rfl, rfl, rfl⟩
    · have hxhq1 : w = 4 := hxhq1
      refine z_aload rfl rfl ?_
      refine z_getR (r := 55) rfl rfl (hR _ rm_50_6 (by decide)) ?_
      refine z_iload rfl rfl ?_
      refine z_iload rfl rfl ?_
      refine z_iast (e := v) rfl rfl (by decide) (by omega) rfl ?_
      refine z_goto rfl ?_
      refine z_vret rfl rfl ?_
      rw [show w.toNat = 4 by omega]
      exact ⟨rfl, rfl, rfl, rfl⟩
  · have hq1 : ∀ q ∈ [((0 : Int), 36), ((1 : Int), 46), ((2 : Int), 56), ((3 : Int), 66), ((4 : Int), 76)], ¬ w = q.1 := hq1
    have hq1_0 : ¬ w = 0 := hq1 (0, 36) (by simp)
    have hq1_1 : ¬ w = 1 := hq1 (1, 46) (by simp)
    have hq1_2 : ¬ w = 2 := hq1 (2, 56) (by simp)
    have hq1_3 : ¬ w = 3 := hq1 (3, 66) (by simp)
    have hq1_4 : ¬ w = 4 := hq1 (4, 76) (by simp)
    refine z_aload rfl rfl ?_
    refine z_getR (r := 56) rfl rfl (hR _ rm_50_7 (by decide)) ?_
    refine z_iload rfl rfl ?_
    refine z_pushI (z := 5) rfl rfl ?_
    refine z_isub (e := w - 5) rfl rfl ?_
    refine z_iload rfl rfl ?_
    refine z_iast (e := v) rfl rfl (by decide) (by omega) rfl ?_
    refine z_vret rfl rfl ?_
    exfalso
    omega
theorem lays_g {X : Nat × (Nat → Int32)} {d : Nat} {J M : zA} {R : zR} {n p w v : Int} (hR : zRoR R) (hz : J 50 1 = n) (hn : 0 ≤ n ∧ n ≤ 8) (hp : -2147483648 ≤ p ∧ p < 2147483648) (hw : -2147483648 ≤ w ∧ w < 2147483648) (hV : 5 ≤ w ∧ w < 14 ∧ p = 0) : zW X (d + 1) 156 0 (gEn 156 [(.ref 50), (zi w), (zi p), (zi v)]) [] J M R (zPx none (zU J 56 (w - 5) v) M R) := by
  show zW _ _ _ _ [some (.ref 50), some (zi w), some (zi p), some (zi v)] _ _ _ _ _
  refine z_iload rfl rfl ?_
  refine z_sw (T := [((0 : Int), 36), ((1 : Int), 46), ((2 : Int), 56), ((3 : Int), 66), ((4 : Int), 76)]) rfl (by omega) rfl (fun q hq1 hxhq1 => ?_) (fun hq1 => ?_)
  · simp only [List.mem_cons, List.not_mem_nil, or_false] at hq1
    rcases hq1 with rfl | rfl | rfl | rfl | rfl
    · have hxhq1 : w = 0 := hxhq1
      refine z_aload rfl rfl ?_
      refine z_getR (r := 51) rfl rfl (hR _ rm_50_2 (by decide)) ?_
      refine z_iload rfl rfl ?_
      refine z_iload rfl rfl ?_
      refine z_iast (e := v) rfl rfl (by decide) (by omega) rfl ?_
      refine z_goto rfl ?_
      refine z_vret rfl rfl ?_
      exfalso
      omega
    · have hxhq1 : w = 1 := hxhq1
      refine z_aload rfl rfl ?_
      refine z_getR (r := 52) rfl rfl (hR _ rm_50_3 (by decide)) ?_
      refine z_iload rfl rfl ?_
      refine z_iload rfl rfl ?_
      refine z_iast (e := v) rfl rfl (by decide) (by omega) rfl ?_
      refine z_goto rfl ?_
      refine z_vret rfl rfl ?_
      exfalso
      omega
    · have hxhq1 : w = 2 := hxhq1
      refine z_aload rfl rfl ?_
      refine z_getR (r := 53) rfl rfl (hR _ rm_50_4 (by decide)) ?_
      refine z_iload rfl rfl ?_
      refine z_iload rfl rfl ?_
      refine z_iast (e := v) rfl rfl (by decide) (by omega) rfl ?_
      refine z_goto rfl ?_
      refine z_vret rfl rfl ?_
      exfalso
      omega
    · have hxhq1 : w = 3 := hxhq1
      refine z_aload rfl rfl ?_
      refine z_getR (r := 54) rfl rfl (hR _ rm_50_5 (by decide)) ?_
      refine z_iload rfl rfl ?_
      refine z_iload rfl rfl ?_
      refine z_iast (e := v) rfl rfl (by decide) (by omega) rfl ?_
      refine z_goto rfl ?_
      refine z_vret rfl rfl ?_
      exfalso
      omega
    · have hxhq1 : w = 4 := hxhq1
      refine z_aload rfl rfl ?_
      refine z_getR (r := 55) rfl rfl (hR _ rm_50_6 (by decide)) ?_
      refine z_iload rfl rfl ?_
      refine z_iload rfl rfl ?_
      refine z_iast (e := v) rfl rfl (by decide) (by omega) rfl ?_
      refine z_goto rfl ?_
      refine z_vret rfl rfl ?_
      exfalso
      omega
  · have hq1 : ∀ q ∈ [((0 : Int), 36), ((1 : Int), 46), ((2 : Int), 56), ((3 : Int), 66), ((4 : Int), 76)], ¬ w = q.1 := hq1
    have hq1_0 : ¬ w = 0 := hq1 (0, 36) (by simp)
    have hq1_1 : ¬ w = 1 := hq1 (1, 46) (by simp)
    have hq1_2 : ¬ w = 2 := hq1 (2, 56) (by simp)
    have hq1_3 : ¬ w = 3 := hq1 (3, 66) (by simp)
    have hq1_4 : ¬ w = 4 := hq1 (4, 76) (by simp)
    refine z_aload rfl rfl ?_
    refine z_getR (r := 56) rfl rfl (hR _ rm_50_7 (by decide)) ?_
    refine z_iload rfl rfl ?_
    refine z_pushI (z := 5) rfl rfl ?_
    refine z_isub (e := w - 5) rfl rfl ?_
    refine z_iload rfl rfl ?_
    refine z_iast (e := v) rfl rfl (by decide) (by omega) rfl ?_
    refine z_vret rfl rfl ?_
    exact ⟨rfl, rfl, rfl, rfl⟩
