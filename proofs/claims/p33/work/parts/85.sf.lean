theorem zC_a0 {J : zA} {a b : Nat} {sp k v : Int} (h0 : 0 ≤ k) (hv : J a (sp + k) = v) : zU (zC J a b sp 0 k) b k v = zC J a b sp 0 (k + 1) := by
  subst hv
  funext x y
  unfold zU zC
  by_cases h : x = b
  · rw [if_pos h, if_pos h, if_pos h]
    by_cases e : y = k
    · rw [if_pos e, if_pos (by omega), e, show sp + (k - 0) = sp + k by omega]
    · rw [if_neg e]
      by_cases c : 0 ≤ y ∧ y < 0 + k
      · rw [if_pos c, if_pos (by omega)]
      · rw [if_neg c, if_neg (by omega)]
  · rw [if_neg h, if_neg h, if_neg h]
theorem zC_b0 {J : zA} {a b : Nat} {dp k v : Int} (h0 : 0 ≤ k) (hv : J a k = v) : zU (zC J a b 0 dp k) b (dp + k) v = zC J a b 0 dp (k + 1) := by
  subst hv
  funext x y
  unfold zU zC
  by_cases h : x = b
  · rw [if_pos h, if_pos h, if_pos h]
    by_cases e : y = dp + k
    · rw [if_pos e, if_pos (by omega), e, show 0 + (dp + k - dp) = k by omega]
    · rw [if_neg e]
      by_cases c : dp ≤ y ∧ y < dp + k
      · rw [if_pos c, if_pos (by omega)]
      · rw [if_neg c, if_neg (by omega)]
  · rw [if_neg h, if_neg h, if_neg h]
theorem zC_none {J : zA} {a b : Nat} {sp dp : Int} : zC J a b sp dp 0 = J := by
  funext x y
  unfold zC
  split
  · rename_i h
    rw [if_neg (by omega), h]
  · rfl
theorem shift1_z {X : Nat × (Nat → Int32)} {d : Nat} {J M : zA} {R : zR} {P : zP} {s i o j n : Int} (hR : zRoR R) (hn : 0 ≤ n ∧ n ≤ 60) (hq : 0 ≤ 60 * s + i ∧ 60 * s + i + n ≤ 360) : ∀ (t : Nat) (k : Int), k + t = n → 0 ≤ k → zW X d 254 147 [some (.ref 50), some (zi s), some (zi i), some (zi o), some (zi j), some (zi n), some (zi n)] [] J (zC M 85 86 (60 * s + i) 0 n) R P → zW X d 254 113 [some (.ref 50), some (zi s), some (zi i), some (zi o), some (zi j), some (zi n), some (zi k)] [] J (zC M 85 86 (60 * s + i) 0 k) R P := by
  intro t
  induction t with
  | zero =>
    intro k hk h0 K
    obtain rfl : k = n := by omega
    refine z_iload rfl rfl ?_
    refine z_iload rfl rfl ?_
    exact z_icmp_geT rfl (by omega) (by omega) (by omega) K
  | succ t ih =>
    intro k hk h0 K
    refine z_iload rfl rfl ?_
    refine z_iload rfl rfl ?_
    refine z_icmp_geF rfl (by omega) (by omega) (by omega) ?_
    refine z_aload rfl rfl ?_
    refine z_getR (r := 86) rfl rfl (hR _ rm_50_61 (by decide)) ?_
    refine z_iload rfl rfl ?_
    refine z_aload rfl rfl ?_
    refine z_getR (r := 85) rfl rfl (hR _ rm_50_60 (by decide)) ?_
    refine z_pushI (z := 60) rfl rfl ?_
    refine z_iload rfl rfl ?_
    refine z_imul (e := 60 * s) rfl rfl ?_
    refine z_iload rfl rfl ?_
    refine z_iadd (e := 60 * s + i) rfl rfl ?_
    refine z_iload rfl rfl ?_
    refine z_iadd (e := 60 * s + i + k) rfl rfl ?_
    refine z_lald (v := M 85 (60 * s + i + k)) rfl rfl (by decide) (by omega) (zC_n (by decide)) ?_
    refine z_last (e := M 85 (60 * s + i + k)) rfl rfl (by decide) (by omega) rfl ?_
    refine z_iinc (c := 1) (e := k + 1) rfl rfl rfl rfl rfl ?_
    refine z_goto rfl ?_
    show zW _ _ _ _ [some (.ref 50), some (zi s), some (zi i), some (zi o), some (zi j), some (zi n), some (zi (k + 1))] [] _ _ _ _
    rw [zC_a0 h0 rfl]
    exact ih (k + 1) (by omega) (by omega) K
theorem shift1_k {X : Nat × (Nat → Int32)} {d : Nat} {J M : zA} {R : zR} {P : zP} {s i o j n : Int} (hR : zRoR R) (hn : 0 ≤ n ∧ n ≤ 60) (hq : 0 ≤ 60 * s + i ∧ 60 * s + i + n ≤ 360) (K : zW X d 254 147 [some (.ref 50), some (zi s), some (zi i), some (zi o), some (zi j), some (zi n), some (zi n)] [] J (zC M 85 86 (60 * s + i) 0 n) R P) : zW X d 254 113 [some (.ref 50), some (zi s), some (zi i), some (zi o), some (zi j), some (zi n), some (zi 0)] [] J M R P := by
  have h := shift1_z hR hn hq n.toNat 0 (by omega) (by decide) K
  rw [zC_none] at h
  exact h
theorem shift2_z {X : Nat × (Nat → Int32)} {d : Nat} {J M : zA} {R : zR} {P : zP} {s i o j n : Int} (hR : zRoR R) (hn : 0 ≤ n ∧ n ≤ 60) (hq : 0 ≤ 60 * o + j ∧ 60 * o + j + n ≤ 360) : ∀ (t : Nat) (k : Int), k + t = n → 0 ≤ k → zW X d 254 185 [some (.ref 50), some (zi s), some (zi i), some (zi o), some (zi j), some (zi n), some (zi n)] [] J (zC M 86 85 0 (60 * o + j) n) R P → zW X d 254 150 [some (.ref 50), some (zi s), some (zi i), some (zi o), some (zi j), some (zi n), some (zi k)] [] J (zC M 86 85 0 (60 * o + j) k) R P := by
  intro t
  induction t with
  | zero =>
    intro k hk h0 K
    obtain rfl : k = n := by omega
    refine z_iload rfl rfl ?_
    refine z_iload rfl rfl ?_
    exact z_icmp_geT rfl (by omega) (by omega) (by omega) K
  | succ t ih =>
    intro k hk h0 K
    refine z_iload rfl rfl ?_
    refine z_iload rfl rfl ?_
    refine z_icmp_geF rfl (by omega) (by omega) (by omega) ?_
    refine z_aload rfl rfl ?_
    refine z_getR (r := 85) rfl rfl (hR _ rm_50_60 (by decide)) ?_
    refine z_pushI (z := 60) rfl rfl ?_
    refine z_iload rfl rfl ?_
    refine z_imul (e := 60 * o) rfl rfl ?_
    refine z_iload rfl rfl ?_
    refine z_iadd (e := 60 * o + j) rfl rfl ?_
    refine z_iload rfl rfl ?_
    refine z_iadd (e := 60 * o + j + k) rfl rfl ?_
    refine z_aload rfl rfl ?_
    refine z_getR (r := 86) rfl rfl (hR _ rm_50_61 (by decide)) ?_
    refine z_iload rfl rfl ?_
    refine z_lald (v := M 86 k) rfl rfl (by decide) (by omega) (zC_n (by decide)) ?_
    refine z_last (e := M 86 k) rfl rfl (by decide) (by omega) rfl ?_
    refine z_iinc (c := 1) (e := k + 1) rfl rfl rfl rfl rfl ?_
    refine z_goto rfl ?_
    show zW _ _ _ _ [some (.ref 50), some (zi s), some (zi i), some (zi o), some (zi j), some (zi n), some (zi (k + 1))] [] _ _ _ _
    rw [zC_b0 h0 rfl]
    exact ih (k + 1) (by omega) (by omega) K
theorem shift2_k {X : Nat × (Nat → Int32)} {d : Nat} {J M : zA} {R : zR} {P : zP} {s i o j n : Int} (hR : zRoR R) (hn : 0 ≤ n ∧ n ≤ 60) (hq : 0 ≤ 60 * o + j ∧ 60 * o + j + n ≤ 360) (K : zW X d 254 185 [some (.ref 50), some (zi s), some (zi i), some (zi o), some (zi j), some (zi n), some (zi n)] [] J (zC M 86 85 0 (60 * o + j) n) R P) : zW X d 254 150 [some (.ref 50), some (zi s), some (zi i), some (zi o), some (zi j), some (zi n), some (zi 0)] [] J M R P := by
  have h := shift2_z hR hn hq n.toNat 0 (by omega) (by decide) K
  rw [zC_none] at h
  exact h
theorem RelS_shift {J M : zA} {s i o j n : Int} (hS : RelS J M) (hs : 0 ≤ s ∧ s < 6) (ho : 0 ≤ o ∧ o < 6) (hhs : J (38 + 2 * s.toNat) 0 = 2) (hso : J (38 + 2 * s.toNat) 2 = J (38 + 2 * o.toNat) 2) (hi : 0 ≤ i) (hj : 0 ≤ j) (hn : 0 ≤ n) (hin : i + n ≤ J (38 + 2 * s.toNat) 3) (hjn : j + n ≤ J (38 + 2 * o.toNat) 3) : RelS J (zC (zC (zC M (39 + 2 * s.toNat) (39 + 2 * o.toNat) i j n) 85 86 (60 * s + i) 0 n) 86 85 0 (60 * o + j) n) := by
  have e39 : ∀ (t : Int) y, 0 ≤ t → t < 6 → (zC (zC (zC M (39 + 2 * s.toNat) (39 + 2 * o.toNat) i j n) 85 86 (60 * s + i) 0 n) 86 85 0 (60 * o + j) n) (39 + 2 * t.toNat) y = (zC M (39 + 2 * s.toNat) (39 + 2 * o.toNat) i j n) (39 + 2 * t.toNat) y := fun t y t1 t2 => (zC_n (by omega)).trans (zC_n (by omega))
  have e85 : ∀ y, (zC (zC (zC M (39 + 2 * s.toNat) (39 + 2 * o.toNat) i j n) 85 86 (60 * s + i) 0 n) 86 85 0 (60 * o + j) n) 85 y = if 60 * o + j ≤ y ∧ y < 60 * o + j + n then M 85 (60 * s + i + (y - (60 * o + j))) else M 85 y := fun y => by
    show (if (85 : Nat) = 85 then (if 60 * o + j ≤ y ∧ y < 60 * o + j + n then (zC (zC M (39 + 2 * s.toNat) (39 + 2 * o.toNat) i j n) 85 86 (60 * s + i) 0 n) 86 (0 + (y - (60 * o + j))) else (zC (zC M (39 + 2 * s.toNat) (39 + 2 * o.toNat) i j n) 85 86 (60 * s + i) 0 n) 85 y) else _) = _
    rw [if_pos rfl]
    by_cases q : 60 * o + j ≤ y ∧ y < 60 * o + j + n
    · rw [if_pos q, if_pos q]
      show (if (86 : Nat) = 86 then (if 0 ≤ 0 + (y - (60 * o + j)) ∧ 0 + (y - (60 * o + j)) < 0 + n then (zC M (39 + 2 * s.toNat) (39 + 2 * o.toNat) i j n) 85 (60 * s + i + (0 + (y - (60 * o + j)) - 0)) else _) else _) = _
      rw [if_pos rfl, if_pos (by omega), zC_n (by omega), show 0 + (y - (60 * o + j)) - 0 = y - (60 * o + j) by omega]
    · rw [if_neg q, if_neg q, zC_n (by decide), zC_n (by omega)]
  have e1 : ∀ y, (zC M (39 + 2 * s.toNat) (39 + 2 * o.toNat) i j n) (39 + 2 * o.toNat) y = if j ≤ y ∧ y < j + n then M (39 + 2 * s.toNat) (i + (y - j)) else M (39 + 2 * o.toNat) y := fun y => by
    show (if (39 + 2 * o.toNat) = (39 + 2 * o.toNat) then _ else _) = _
    rw [if_pos rfl]
  have rs := hS s hs.1 hs.2
  have ro := hS o ho.1 ho.2
  obtain ⟨q1, q2, q3, q4, q5, q6⟩ := ro
  have rs6 := rs.2.2.2.2.2 hhs
  have s4 := rs.2.2.2.1
  refine RelS_one (J := J) (M := M) (c := o) (fun t t1 t2 te => ⟨fun j => rfl, rfl, rfl⟩) (fun t t1 t2 te => ⟨fun y => ?_, fun y y1 y2 => ?_⟩) rfl ⟨q1, q2, q3, q4, q5, fun hh => ⟨(q6 hh).1, fun y y1 y2 => ?_, fun h0 y y1 y2 => ?_⟩⟩ hS
  · rw [e39 t y t1 t2, zC_n (by omega)]
  · rw [e85, if_neg (by omega)]
  · rw [e39 o y ho.1 ho.2, e85, e1]
    by_cases q : j ≤ y ∧ y < j + n
    · rw [if_pos q, if_pos (by omega), rs6.2.1 (i + (y - j)) (by omega) (by omega), show 60 * s + i + (60 * o + y - (60 * o + j)) = 60 * s + (i + (y - j)) by omega]
    · rw [if_neg q, if_neg (by omega)]
      exact (q6 hh).2.1 y y1 y2
  · rw [e39 o y ho.1 ho.2, e1]
    by_cases q : j ≤ y ∧ y < j + n
    · rw [if_pos q]
      exact rs6.2.2 (by omega) (i + (y - j)) (by omega) (by omega)
    · rw [if_neg q]
      exact (q6 hh).2.2 h0 y y1 y2
theorem st_shift_00 {X : Nat × (Nat → Int32)} {d : Nat} {J M : zA} {R : zR} {s i o j n : Int} (hr : Rel X J M R) (hs : -2147483648 ≤ s ∧ s < 2147483648) (hi : -2147483648 ≤ i ∧ i < 2147483648) (ho : -2147483648 ≤ o ∧ o < 2147483648) (hj : -2147483648 ≤ j ∧ j < 2147483648) (hn : -2147483648 ≤ n ∧ n < 2147483648) (hs6 : 0 ≤ s ∧ s < 6) (hh : J (38 + 2 * s.toNat) 0 = 0) (ho6 : 0 ≤ o ∧ o < 6) (hho : J (38 + 2 * o.toNat) 0 = 0) : zW X (d + 20) 140 0 (gEn 140 [(.ref 0), (zi s), (zi i), (zi o), (zi j), (zi n)]) [] J M R (stP X (d + 20) 254 [(zi s), (zi i), (zi o), (zi j), (zi n)]) := by
  have hr0 := hr
  obtain ⟨hR, hG, hY, hD, hP, hC, hAc, hS, hTp, hX, hW⟩ := hr0
  have hRr : zRoR R := zRoR_of hR
  have hA0 := hAc
  obtain ⟨a1, a2, a3, a4, a5, a6⟩ := hA0
  have e83 : J 83 s = -1 := (hS s hs6.1 hs6.2).1.symm.trans (cH_0 hh)
  have s3 : 0 ≤ J (38 + 2 * s.toNat) 2 ∧ J (38 + 2 * s.toNat) 2 ≤ 4 := (hS s hs6.1 hs6.2).2.2.1
  have s4 : 0 ≤ J (38 + 2 * s.toNat) 3 ∧ J (38 + 2 * s.toNat) 3 ≤ 60 := (hS s hs6.1 hs6.2).2.2.2.1
  have e83o : J 83 o = -1 := (hS o ho6.1 ho6.2).1.symm.trans (cH_0 hho)
  have s3o : 0 ≤ J (38 + 2 * o.toNat) 2 ∧ J (38 + 2 * o.toNat) 2 ≤ 4 := (hS o ho6.1 ho6.2).2.2.1
  have s4o : 0 ≤ J (38 + 2 * o.toNat) 3 ∧ J (38 + 2 * o.toNat) 3 ≤ 60 := (hS o ho6.1 ho6.2).2.2.2.1
  show zW _ _ _ _ [some (.ref 0), some (zi s), some (zi i), some (zi o), some (zi j), some (zi n), none, none] _ _ _ _ _
  refine z_iload rfl rfl ?_
  refine z_callSi (As := [_]) (le := [some _]) rfl rfl (Nat.le_of_ble_eq_true rfl) (Nat.le_of_ble_eq_true rfl) rfl ?_
  refine z_iload rfl rfl ?_
  refine z_if_ltF rfl (by omega) (by omega) ?_
  refine z_iload rfl rfl ?_
  refine z_pushI (z := 6) rfl rfl ?_
  refine z_icmp_geF rfl (by omega) (by decide) (by omega) ?_
  refine z_pushI (z := 1) rfl rfl ?_
  refine z_goto rfl ?_
  refine z_bret rfl rfl (by decide) ?_
  show zW _ _ _ _ _ _ _ _ _ _
  refine z_if_eqF rfl (by decide) (by decide) ?_
  refine z_iload rfl rfl ?_
  refine z_callSi (As := [_]) (le := [some _]) rfl rfl (Nat.le_of_ble_eq_true rfl) (Nat.le_of_ble_eq_true rfl) rfl ?_
  refine z_iload rfl rfl ?_
  refine z_if_ltF rfl (by omega) (by omega) ?_
  refine z_iload rfl rfl ?_
  refine z_pushI (z := 6) rfl rfl ?_
  refine z_icmp_geF rfl (by omega) (by decide) (by omega) ?_
  refine z_pushI (z := 1) rfl rfl ?_
  refine z_goto rfl ?_
  refine z_bret rfl rfl (by decide) ?_
  show zW _ _ _ _ _ _ _ _ _ _
  refine z_if_neT rfl (by decide) (by decide) ?_
  refine z_aload rfl rfl ?_
  refine z_getR (r := 37) rfl rfl (hR _ rm_0_11) ?_
  refine z_iload rfl rfl ?_
  refine z_aald (r := 38 + 2 * s.toNat) rfl rfl (by decide) (by omega) (rr_shelf hR (by omega)) ?_
  refine z_astore rfl rfl ?_
  refine z_aload rfl rfl ?_
  refine z_getR (r := 37) rfl rfl (hR _ rm_0_11) ?_
  refine z_iload rfl rfl ?_
  refine z_aald (r := 38 + 2 * o.toNat) rfl rfl (by decide) (by omega) (rr_shelf hR (by omega)) ?_
  refine z_astore rfl rfl ?_
  refine z_aload rfl rfl ?_
  refine z_callVi (As := []) (le := [some _]) rfl rfl (zk_shelf (by omega)) (Nat.le_of_ble_eq_true rfl) (Nat.le_of_ble_eq_true rfl) rfl ?_
  refine z_aload rfl rfl ?_
  refine z_getI (v := 0) rfl (zk_shelf (by omega)) (hh) ?_
  refine z_if_neF rfl (by decide) (by decide) ?_
  refine z_pushI (z := 1) rfl rfl ?_
  refine z_goto rfl ?_
  refine z_bret rfl rfl (by decide) ?_
  show zW _ _ _ _ _ _ _ _ _ _
  refine z_if_neT rfl (by decide) (by decide) ?_
  refine z_pushI (z := (-11)) rfl rfl ?_
  refine z_iret rfl rfl ?_
  refine ⟨_, rfl, ?_⟩
  show zW _ _ _ _ [some (.ref 50), some (zi s), some (zi i), some (zi o), some (zi j), some (zi n), none] _ _ _ _ _
  refine z_iload rfl rfl ?_
  refine z_callSi (As := [_]) (le := [some _]) rfl rfl (Nat.le_of_ble_eq_true rfl) (Nat.le_of_ble_eq_true rfl) rfl ?_
  refine z_iload rfl rfl ?_
  refine z_pushI (z := 0) rfl rfl ?_
  refine z_pushI (z := 5) rfl rfl ?_
  refine z_callSi (As := [_, _, _]) (le := [some _, some _, some _]) rfl rfl (Nat.le_of_ble_eq_true rfl) (Nat.le_of_ble_eq_true rfl) rfl ?_
  refine z_iload rfl rfl ?_
  refine z_iload rfl rfl ?_
  refine z_icmp_ltF rfl (by omega) (by decide) (by omega) ?_
  refine z_iload rfl rfl ?_
  refine z_iload rfl rfl ?_
  refine z_icmp_gtF rfl (by omega) (by decide) (by omega) ?_
  refine z_pushI (z := 1) rfl rfl ?_
  refine z_goto rfl ?_
  refine z_bret rfl rfl (by decide) ?_
  show zW _ _ _ _ _ _ _ _ _ _
  refine z_bret rfl rfl (by decide) ?_
  show zW _ _ _ _ _ _ _ _ _ _
  refine z_if_eqF rfl (by decide) (by decide) ?_
  refine z_iload rfl rfl ?_
  refine z_callSi (As := [_]) (le := [some _]) rfl rfl (Nat.le_of_ble_eq_true rfl) (Nat.le_of_ble_eq_true rfl) rfl ?_
  refine z_iload rfl rfl ?_
  refine z_pushI (z := 0) rfl rfl ?_
  refine z_pushI (z := 5) rfl rfl ?_
  refine z_callSi (As := [_, _, _]) (le := [some _, some _, some _]) rfl rfl (Nat.le_of_ble_eq_true rfl) (Nat.le_of_ble_eq_true rfl) rfl ?_
  refine z_iload rfl rfl ?_
  refine z_iload rfl rfl ?_
  refine z_icmp_ltF rfl (by omega) (by decide) (by omega) ?_
  refine z_iload rfl rfl ?_
  refine z_iload rfl rfl ?_
  refine z_icmp_gtF rfl (by omega) (by decide) (by omega) ?_
  refine z_pushI (z := 1) rfl rfl ?_
  refine z_goto rfl ?_
  refine z_bret rfl rfl (by decide) ?_
  show zW _ _ _ _ _ _ _ _ _ _
  refine z_bret rfl rfl (by decide) ?_
  show zW _ _ _ _ _ _ _ _ _ _
  refine z_if_neT rfl (by decide) (by decide) ?_
  refine z_aload rfl rfl ?_
  refine z_getR (r := 83) rfl rfl (hRr _ rm_50_58 (by decide)) ?_
  refine z_iload rfl rfl ?_
  refine z_iald (v := (-1)) rfl rfl (by decide) (by omega) (e83) ?_
  refine z_pushI (z := (-1)) rfl rfl ?_
  refine z_icmp_eqT rfl (by decide) (by decide) (by decide) ?_
  refine z_pushI (z := (-11)) rfl rfl ?_
  refine z_iret rfl rfl ?_
  refine ⟨?_, ?_⟩
  · first | rfl | exact congrArg (fun v => some (zi v)) (by omega) | (exfalso; omega)
  · exact hr
theorem st_shift_01 {X : Nat × (Nat → Int32)} {d : Nat} {J M : zA} {R : zR} {s i o j n : Int} (hr : Rel X J M R) (hs : -2147483648 ≤ s ∧ s < 2147483648) (hi : -2147483648 ≤ i ∧ i < 2147483648) (ho : -2147483648 ≤ o ∧ o < 2147483648) (hj : -2147483648 ≤ j ∧ j < 2147483648) (hn : -2147483648 ≤ n ∧ n < 2147483648) (hs6 : 0 ≤ s ∧ s < 6) (hh : J (38 + 2 * s.toNat) 0 = 0) (ho6 : 0 ≤ o ∧ o < 6) (hho : J (38 + 2 * o.toNat) 0 = 1) : zW X (d + 20) 140 0 (gEn 140 [(.ref 0), (zi s), (zi i), (zi o), (zi j), (zi n)]) [] J M R (stP X (d + 20) 254 [(zi s), (zi i), (zi o), (zi j), (zi n)]) := by
  have hr0 := hr
  obtain ⟨hR, hG, hY, hD, hP, hC, hAc, hS, hTp, hX, hW⟩ := hr0
  have hRr : zRoR R := zRoR_of hR
  have hA0 := hAc
  obtain ⟨a1, a2, a3, a4, a5, a6⟩ := hA0
  have e83 : J 83 s = -1 := (hS s hs6.1 hs6.2).1.symm.trans (cH_0 hh)
  have s3 : 0 ≤ J (38 + 2 * s.toNat) 2 ∧ J (38 + 2 * s.toNat) 2 ≤ 4 := (hS s hs6.1 hs6.2).2.2.1
  have s4 : 0 ≤ J (38 + 2 * s.toNat) 3 ∧ J (38 + 2 * s.toNat) 3 ≤ 60 := (hS s hs6.1 hs6.2).2.2.2.1
  have e83o : J 83 o = J (38 + 2 * o.toNat) 1 := (hS o ho6.1 ho6.2).1.symm.trans (cH_1 hho)
  have s3o : 0 ≤ J (38 + 2 * o.toNat) 2 ∧ J (38 + 2 * o.toNat) 2 ≤ 4 := (hS o ho6.1 ho6.2).2.2.1
  have s4o : 0 ≤ J (38 + 2 * o.toNat) 3 ∧ J (38 + 2 * o.toNat) 3 ≤ 60 := (hS o ho6.1 ho6.2).2.2.2.1
  have s5o : 0 ≤ J (38 + 2 * o.toNat) 1 ∧ J (38 + 2 * o.toNat) 1 < J 34 1 := (hS o ho6.1 ho6.2).2.2.2.2.1 hho
  show zW _ _ _ _ [some (.ref 0), some (zi s), some (zi i), some (zi o), some (zi j), some (zi n), none, none] _ _ _ _ _
  refine z_iload rfl rfl ?_
  refine z_callSi (As := [_]) (le := [some _]) rfl rfl (Nat.le_of_ble_eq_true rfl) (Nat.le_of_ble_eq_true rfl) rfl ?_
  refine z_iload rfl rfl ?_
  refine z_if_ltF rfl (by omega) (by omega) ?_
  refine z_iload rfl rfl ?_
  refine z_pushI (z := 6) rfl rfl ?_
  refine z_icmp_geF rfl (by omega) (by decide) (by omega) ?_
  refine z_pushI (z := 1) rfl rfl ?_
  refine z_goto rfl ?_
  refine z_bret rfl rfl (by decide) ?_
  show zW _ _ _ _ _ _ _ _ _ _
  refine z_if_eqF rfl (by decide) (by decide) ?_
  refine z_iload rfl rfl ?_
  refine z_callSi (As := [_]) (le := [some _]) rfl rfl (Nat.le_of_ble_eq_true rfl) (Nat.le_of_ble_eq_true rfl) rfl ?_
  refine z_iload rfl rfl ?_
  refine z_if_ltF rfl (by omega) (by omega) ?_
  refine z_iload rfl rfl ?_
  refine z_pushI (z := 6) rfl rfl ?_
  refine z_icmp_geF rfl (by omega) (by decide) (by omega) ?_
  refine z_pushI (z := 1) rfl rfl ?_
  refine z_goto rfl ?_
  refine z_bret rfl rfl (by decide) ?_
  show zW _ _ _ _ _ _ _ _ _ _
  refine z_if_neT rfl (by decide) (by decide) ?_
  refine z_aload rfl rfl ?_
  refine z_getR (r := 37) rfl rfl (hR _ rm_0_11) ?_
  refine z_iload rfl rfl ?_
  refine z_aald (r := 38 + 2 * s.toNat) rfl rfl (by decide) (by omega) (rr_shelf hR (by omega)) ?_
  refine z_astore rfl rfl ?_
  refine z_aload rfl rfl ?_
  refine z_getR (r := 37) rfl rfl (hR _ rm_0_11) ?_
  refine z_iload rfl rfl ?_
  refine z_aald (r := 38 + 2 * o.toNat) rfl rfl (by decide) (by omega) (rr_shelf hR (by omega)) ?_
  refine z_astore rfl rfl ?_
  refine z_aload rfl rfl ?_
  refine z_callVi (As := []) (le := [some _]) rfl rfl (zk_shelf (by omega)) (Nat.le_of_ble_eq_true rfl) (Nat.le_of_ble_eq_true rfl) rfl ?_
  refine z_aload rfl rfl ?_
  refine z_getI (v := 0) rfl (zk_shelf (by omega)) (hh) ?_
  refine z_if_neF rfl (by decide) (by decide) ?_
  refine z_pushI (z := 1) rfl rfl ?_
  refine z_goto rfl ?_
  refine z_bret rfl rfl (by decide) ?_
  show zW _ _ _ _ _ _ _ _ _ _
  refine z_if_neT rfl (by decide) (by decide) ?_
  refine z_pushI (z := (-11)) rfl rfl ?_
  refine z_iret rfl rfl ?_
  refine ⟨_, rfl, ?_⟩
  show zW _ _ _ _ [some (.ref 50), some (zi s), some (zi i), some (zi o), some (zi j), some (zi n), none] _ _ _ _ _
  refine z_iload rfl rfl ?_
  refine z_callSi (As := [_]) (le := [some _]) rfl rfl (Nat.le_of_ble_eq_true rfl) (Nat.le_of_ble_eq_true rfl) rfl ?_
  refine z_iload rfl rfl ?_
  refine z_pushI (z := 0) rfl rfl ?_
  refine z_pushI (z := 5) rfl rfl ?_
  refine z_callSi (As := [_, _, _]) (le := [some _, some _, some _]) rfl rfl (Nat.le_of_ble_eq_true rfl) (Nat.le_of_ble_eq_true rfl) rfl ?_
  refine z_iload rfl rfl ?_
  refine z_iload rfl rfl ?_
  refine z_icmp_ltF rfl (by omega) (by decide) (by omega) ?_
  refine z_iload rfl rfl ?_
  refine z_iload rfl rfl ?_
  refine z_icmp_gtF rfl (by omega) (by decide) (by omega) ?_
  refine z_pushI (z := 1) rfl rfl ?_
  refine z_goto rfl ?_
  refine z_bret rfl rfl (by decide) ?_
  show zW _ _ _ _ _ _ _ _ _ _
  refine z_bret rfl rfl (by decide) ?_
  show zW _ _ _ _ _ _ _ _ _ _
  refine z_if_eqF rfl (by decide) (by decide) ?_
  refine z_iload rfl rfl ?_
  refine z_callSi (As := [_]) (le := [some _]) rfl rfl (Nat.le_of_ble_eq_true rfl) (Nat.le_of_ble_eq_true rfl) rfl ?_
  refine z_iload rfl rfl ?_
  refine z_pushI (z := 0) rfl rfl ?_
  refine z_pushI (z := 5) rfl rfl ?_
  refine z_callSi (As := [_, _, _]) (le := [some _, some _, some _]) rfl rfl (Nat.le_of_ble_eq_true rfl) (Nat.le_of_ble_eq_true rfl) rfl ?_
  refine z_iload rfl rfl ?_
  refine z_iload rfl rfl ?_
  refine z_icmp_ltF rfl (by omega) (by decide) (by omega) ?_
  refine z_iload rfl rfl ?_
  refine z_iload rfl rfl ?_
  refine z_icmp_gtF rfl (by omega) (by decide) (by omega) ?_
  refine z_pushI (z := 1) rfl rfl ?_
  refine z_goto rfl ?_
  refine z_bret rfl rfl (by decide) ?_
  show zW _ _ _ _ _ _ _ _ _ _
  refine z_bret rfl rfl (by decide) ?_
  show zW _ _ _ _ _ _ _ _ _ _
  refine z_if_neT rfl (by decide) (by decide) ?_
  refine z_aload rfl rfl ?_
  refine z_getR (r := 83) rfl rfl (hRr _ rm_50_58 (by decide)) ?_
  refine z_iload rfl rfl ?_
  refine z_iald (v := (-1)) rfl rfl (by decide) (by omega) (e83) ?_
  refine z_pushI (z := (-1)) rfl rfl ?_
  refine z_icmp_eqT rfl (by decide) (by decide) (by decide) ?_
  refine z_pushI (z := (-11)) rfl rfl ?_
  refine z_iret rfl rfl ?_
  refine ⟨?_, ?_⟩
  · first | rfl | exact congrArg (fun v => some (zi v)) (by omega) | (exfalso; omega)
  · exact hr
theorem st_shift_02 {X : Nat × (Nat → Int32)} {d : Nat} {J M : zA} {R : zR} {s i o j n : Int} (hr : Rel X J M R) (hs : -2147483648 ≤ s ∧ s < 2147483648) (hi : -2147483648 ≤ i ∧ i < 2147483648) (ho : -2147483648 ≤ o ∧ o < 2147483648) (hj : -2147483648 ≤ j ∧ j < 2147483648) (hn : -2147483648 ≤ n ∧ n < 2147483648) (hs6 : 0 ≤ s ∧ s < 6) (hh : J (38 + 2 * s.toNat) 0 = 0) (ho6 : 0 ≤ o ∧ o < 6) (hho : J (38 + 2 * o.toNat) 0 = 2) : zW X (d + 20) 140 0 (gEn 140 [(.ref 0), (zi s), (zi i), (zi o), (zi j), (zi n)]) [] J M R (stP X (d + 20) 254 [(zi s), (zi i), (zi o), (zi j), (zi n)]) := by
  have hr0 := hr
  obtain ⟨hR, hG, hY, hD, hP, hC, hAc, hS, hTp, hX, hW⟩ := hr0
  have hRr : zRoR R := zRoR_of hR
  have hA0 := hAc
  obtain ⟨a1, a2, a3, a4, a5, a6⟩ := hA0
  have e83 : J 83 s = -1 := (hS s hs6.1 hs6.2).1.symm.trans (cH_0 hh)
  have s3 : 0 ≤ J (38 + 2 * s.toNat) 2 ∧ J (38 + 2 * s.toNat) 2 ≤ 4 := (hS s hs6.1 hs6.2).2.2.1
  have s4 : 0 ≤ J (38 + 2 * s.toNat) 3 ∧ J (38 + 2 * s.toNat) 3 ≤ 60 := (hS s hs6.1 hs6.2).2.2.2.1
  have e83o : J 83 o = -2 - J (38 + 2 * o.toNat) 2 := (hS o ho6.1 ho6.2).1.symm.trans (cH_2 hho)
  have s3o : 0 ≤ J (38 + 2 * o.toNat) 2 ∧ J (38 + 2 * o.toNat) 2 ≤ 4 := (hS o ho6.1 ho6.2).2.2.1
  have s4o : 0 ≤ J (38 + 2 * o.toNat) 3 ∧ J (38 + 2 * o.toNat) 3 ≤ 60 := (hS o ho6.1 ho6.2).2.2.2.1
  have s6o := (hS o ho6.1 ho6.2).2.2.2.2.2 hho
  have s7o : J 84 o = J (38 + 2 * o.toNat) 3 := s6o.1.symm
  have s8o : ∀ i, 0 ≤ i → i < J (38 + 2 * o.toNat) 3 → M (39 + 2 * o.toNat) i = M 85 (60 * o + i) := s6o.2.1
  show zW _ _ _ _ [some (.ref 0), some (zi s), some (zi i), some (zi o), some (zi j), some (zi n), none, none] _ _ _ _ _
  refine z_iload rfl rfl ?_
  refine z_callSi (As := [_]) (le := [some _]) rfl rfl (Nat.le_of_ble_eq_true rfl) (Nat.le_of_ble_eq_true rfl) rfl ?_
  refine z_iload rfl rfl ?_
  refine z_if_ltF rfl (by omega) (by omega) ?_
  refine z_iload rfl rfl ?_
  refine z_pushI (z := 6) rfl rfl ?_
  refine z_icmp_geF rfl (by omega) (by decide) (by omega) ?_
  refine z_pushI (z := 1) rfl rfl ?_
  refine z_goto rfl ?_
  refine z_bret rfl rfl (by decide) ?_
  show zW _ _ _ _ _ _ _ _ _ _
  refine z_if_eqF rfl (by decide) (by decide) ?_
  refine z_iload rfl rfl ?_
  refine z_callSi (As := [_]) (le := [some _]) rfl rfl (Nat.le_of_ble_eq_true rfl) (Nat.le_of_ble_eq_true rfl) rfl ?_
  refine z_iload rfl rfl ?_
  refine z_if_ltF rfl (by omega) (by omega) ?_
  refine z_iload rfl rfl ?_
  refine z_pushI (z := 6) rfl rfl ?_
  refine z_icmp_geF rfl (by omega) (by decide) (by omega) ?_
  refine z_pushI (z := 1) rfl rfl ?_
  refine z_goto rfl ?_
  refine z_bret rfl rfl (by decide) ?_
  show zW _ _ _ _ _ _ _ _ _ _
  refine z_if_neT rfl (by decide) (by decide) ?_
  refine z_aload rfl rfl ?_
  refine z_getR (r := 37) rfl rfl (hR _ rm_0_11) ?_
  refine z_iload rfl rfl ?_
  refine z_aald (r := 38 + 2 * s.toNat) rfl rfl (by decide) (by omega) (rr_shelf hR (by omega)) ?_
  refine z_astore rfl rfl ?_
  refine z_aload rfl rfl ?_
  refine z_getR (r := 37) rfl rfl (hR _ rm_0_11) ?_
  refine z_iload rfl rfl ?_
  refine z_aald (r := 38 + 2 * o.toNat) rfl rfl (by decide) (by omega) (rr_shelf hR (by omega)) ?_
  refine z_astore rfl rfl ?_
  refine z_aload rfl rfl ?_
  refine z_callVi (As := []) (le := [some _]) rfl rfl (zk_shelf (by omega)) (Nat.le_of_ble_eq_true rfl) (Nat.le_of_ble_eq_true rfl) rfl ?_
  refine z_aload rfl rfl ?_
  refine z_getI (v := 0) rfl (zk_shelf (by omega)) (hh) ?_
  refine z_if_neF rfl (by decide) (by decide) ?_
  refine z_pushI (z := 1) rfl rfl ?_
  refine z_goto rfl ?_
  refine z_bret rfl rfl (by decide) ?_
  show zW _ _ _ _ _ _ _ _ _ _
  refine z_if_neT rfl (by decide) (by decide) ?_
  refine z_pushI (z := (-11)) rfl rfl ?_
  refine z_iret rfl rfl ?_
  refine ⟨_, rfl, ?_⟩
  show zW _ _ _ _ [some (.ref 50), some (zi s), some (zi i), some (zi o), some (zi j), some (zi n), none] _ _ _ _ _
  refine z_iload rfl rfl ?_
  refine z_callSi (As := [_]) (le := [some _]) rfl rfl (Nat.le_of_ble_eq_true rfl) (Nat.le_of_ble_eq_true rfl) rfl ?_
  refine z_iload rfl rfl ?_
  refine z_pushI (z := 0) rfl rfl ?_
  refine z_pushI (z := 5) rfl rfl ?_
  refine z_callSi (As := [_, _, _]) (le := [some _, some _, some _]) rfl rfl (Nat.le_of_ble_eq_true rfl) (Nat.le_of_ble_eq_true rfl) rfl ?_
  refine z_iload rfl rfl ?_
  refine z_iload rfl rfl ?_
  refine z_icmp_ltF rfl (by omega) (by decide) (by omega) ?_
  refine z_iload rfl rfl ?_
  refine z_iload rfl rfl ?_
  refine z_icmp_gtF rfl (by omega) (by decide) (by omega) ?_
  refine z_pushI (z := 1) rfl rfl ?_
  refine z_goto rfl ?_
  refine z_bret rfl rfl (by decide) ?_
  show zW _ _ _ _ _ _ _ _ _ _
  refine z_bret rfl rfl (by decide) ?_
  show zW _ _ _ _ _ _ _ _ _ _
  refine z_if_eqF rfl (by decide) (by decide) ?_
  refine z_iload rfl rfl ?_
  refine z_callSi (As := [_]) (le := [some _]) rfl rfl (Nat.le_of_ble_eq_true rfl) (Nat.le_of_ble_eq_true rfl) rfl ?_
  refine z_iload rfl rfl ?_
  refine z_pushI (z := 0) rfl rfl ?_
  refine z_pushI (z := 5) rfl rfl ?_
  refine z_callSi (As := [_, _, _]) (le := [some _, some _, some _]) rfl rfl (Nat.le_of_ble_eq_true rfl) (Nat.le_of_ble_eq_true rfl) rfl ?_
  refine z_iload rfl rfl ?_
  refine z_iload rfl rfl ?_
  refine z_icmp_ltF rfl (by omega) (by decide) (by omega) ?_
  refine z_iload rfl rfl ?_
  refine z_iload rfl rfl ?_
  refine z_icmp_gtF rfl (by omega) (by decide) (by omega) ?_
  refine z_pushI (z := 1) rfl rfl ?_
  refine z_goto rfl ?_
  refine z_bret rfl rfl (by decide) ?_
  show zW _ _ _ _ _ _ _ _ _ _
  refine z_bret rfl rfl (by decide) ?_
  show zW _ _ _ _ _ _ _ _ _ _
  refine z_if_neT rfl (by decide) (by decide) ?_
  refine z_aload rfl rfl ?_
  refine z_getR (r := 83) rfl rfl (hRr _ rm_50_58 (by decide)) ?_
  refine z_iload rfl rfl ?_
  refine z_iald (v := (-1)) rfl rfl (by decide) (by omega) (e83) ?_
  refine z_pushI (z := (-1)) rfl rfl ?_
  refine z_icmp_eqT rfl (by decide) (by decide) (by decide) ?_
  refine z_pushI (z := (-11)) rfl rfl ?_
  refine z_iret rfl rfl ?_
  refine ⟨?_, ?_⟩
  · first | rfl | exact congrArg (fun v => some (zi v)) (by omega) | (exfalso; omega)
  · exact hr
theorem st_shift_10 {X : Nat × (Nat → Int32)} {d : Nat} {J M : zA} {R : zR} {s i o j n : Int} (hr : Rel X J M R) (hs : -2147483648 ≤ s ∧ s < 2147483648) (hi : -2147483648 ≤ i ∧ i < 2147483648) (ho : -2147483648 ≤ o ∧ o < 2147483648) (hj : -2147483648 ≤ j ∧ j < 2147483648) (hn : -2147483648 ≤ n ∧ n < 2147483648) (hs6 : 0 ≤ s ∧ s < 6) (hh : J (38 + 2 * s.toNat) 0 = 1) (ho6 : 0 ≤ o ∧ o < 6) (hho : J (38 + 2 * o.toNat) 0 = 0) : zW X (d + 20) 140 0 (gEn 140 [(.ref 0), (zi s), (zi i), (zi o), (zi j), (zi n)]) [] J M R (stP X (d + 20) 254 [(zi s), (zi i), (zi o), (zi j), (zi n)]) := by
  have hr0 := hr
  obtain ⟨hR, hG, hY, hD, hP, hC, hAc, hS, hTp, hX, hW⟩ := hr0
  have hRr : zRoR R := zRoR_of hR
  have hA0 := hAc
  obtain ⟨a1, a2, a3, a4, a5, a6⟩ := hA0
  have e83 : J 83 s = J (38 + 2 * s.toNat) 1 := (hS s hs6.1 hs6.2).1.symm.trans (cH_1 hh)
  have s3 : 0 ≤ J (38 + 2 * s.toNat) 2 ∧ J (38 + 2 * s.toNat) 2 ≤ 4 := (hS s hs6.1 hs6.2).2.2.1
  have s4 : 0 ≤ J (38 + 2 * s.toNat) 3 ∧ J (38 + 2 * s.toNat) 3 ≤ 60 := (hS s hs6.1 hs6.2).2.2.2.1
  have s5 : 0 ≤ J (38 + 2 * s.toNat) 1 ∧ J (38 + 2 * s.toNat) 1 < J 34 1 := (hS s hs6.1 hs6.2).2.2.2.2.1 hh
  have e83o : J 83 o = -1 := (hS o ho6.1 ho6.2).1.symm.trans (cH_0 hho)
  have s3o : 0 ≤ J (38 + 2 * o.toNat) 2 ∧ J (38 + 2 * o.toNat) 2 ≤ 4 := (hS o ho6.1 ho6.2).2.2.1
  have s4o : 0 ≤ J (38 + 2 * o.toNat) 3 ∧ J (38 + 2 * o.toNat) 3 ≤ 60 := (hS o ho6.1 ho6.2).2.2.2.1
  show zW _ _ _ _ [some (.ref 0), some (zi s), some (zi i), some (zi o), some (zi j), some (zi n), none, none] _ _ _ _ _
  refine z_iload rfl rfl ?_
  refine z_callSi (As := [_]) (le := [some _]) rfl rfl (Nat.le_of_ble_eq_true rfl) (Nat.le_of_ble_eq_true rfl) rfl ?_
  refine z_iload rfl rfl ?_
  refine z_if_ltF rfl (by omega) (by omega) ?_
  refine z_iload rfl rfl ?_
  refine z_pushI (z := 6) rfl rfl ?_
  refine z_icmp_geF rfl (by omega) (by decide) (by omega) ?_
  refine z_pushI (z := 1) rfl rfl ?_
  refine z_goto rfl ?_
  refine z_bret rfl rfl (by decide) ?_
  show zW _ _ _ _ _ _ _ _ _ _
  refine z_if_eqF rfl (by decide) (by decide) ?_
  refine z_iload rfl rfl ?_
  refine z_callSi (As := [_]) (le := [some _]) rfl rfl (Nat.le_of_ble_eq_true rfl) (Nat.le_of_ble_eq_true rfl) rfl ?_
  refine z_iload rfl rfl ?_
  refine z_if_ltF rfl (by omega) (by omega) ?_
  refine z_iload rfl rfl ?_
  refine z_pushI (z := 6) rfl rfl ?_
  refine z_icmp_geF rfl (by omega) (by decide) (by omega) ?_
  refine z_pushI (z := 1) rfl rfl ?_
  refine z_goto rfl ?_
  refine z_bret rfl rfl (by decide) ?_
  show zW _ _ _ _ _ _ _ _ _ _
  refine z_if_neT rfl (by decide) (by decide) ?_
  refine z_aload rfl rfl ?_
  refine z_getR (r := 37) rfl rfl (hR _ rm_0_11) ?_
  refine z_iload rfl rfl ?_
  refine z_aald (r := 38 + 2 * s.toNat) rfl rfl (by decide) (by omega) (rr_shelf hR (by omega)) ?_
  refine z_astore rfl rfl ?_
  refine z_aload rfl rfl ?_
  refine z_getR (r := 37) rfl rfl (hR _ rm_0_11) ?_
  refine z_iload rfl rfl ?_
  refine z_aald (r := 38 + 2 * o.toNat) rfl rfl (by decide) (by omega) (rr_shelf hR (by omega)) ?_
  refine z_astore rfl rfl ?_
  refine z_aload rfl rfl ?_
  refine z_callVi (As := []) (le := [some _]) rfl rfl (zk_shelf (by omega)) (Nat.le_of_ble_eq_true rfl) (Nat.le_of_ble_eq_true rfl) rfl ?_
  refine z_aload rfl rfl ?_
  refine z_getI (v := 1) rfl (zk_shelf (by omega)) (hh) ?_
  refine z_if_neT rfl (by decide) (by decide) ?_
  refine z_pushI (z := 0) rfl rfl ?_
  refine z_bret rfl rfl (by decide) ?_
  show zW _ _ _ _ _ _ _ _ _ _
  refine z_if_neF rfl (by decide) (by decide) ?_
  refine z_aload rfl rfl ?_
  refine z_callVi (As := []) (le := [some _]) rfl rfl (zk_shelf (by omega)) (Nat.le_of_ble_eq_true rfl) (Nat.le_of_ble_eq_true rfl) rfl ?_
  refine z_aload rfl rfl ?_
  refine z_getI (v := 0) rfl (zk_shelf (by omega)) (hho) ?_
  refine z_if_neF rfl (by decide) (by decide) ?_
  refine z_pushI (z := 1) rfl rfl ?_
  refine z_goto rfl ?_
  refine z_bret rfl rfl (by decide) ?_
  show zW _ _ _ _ _ _ _ _ _ _
  refine z_if_eqF rfl (by decide) (by decide) ?_
  refine z_pushI (z := (-11)) rfl rfl ?_
  refine z_iret rfl rfl ?_
  refine ⟨_, rfl, ?_⟩
  show zW _ _ _ _ [some (.ref 50), some (zi s), some (zi i), some (zi o), some (zi j), some (zi n), none] _ _ _ _ _
  refine z_iload rfl rfl ?_
  refine z_callSi (As := [_]) (le := [some _]) rfl rfl (Nat.le_of_ble_eq_true rfl) (Nat.le_of_ble_eq_true rfl) rfl ?_
  refine z_iload rfl rfl ?_
  refine z_pushI (z := 0) rfl rfl ?_
  refine z_pushI (z := 5) rfl rfl ?_
  refine z_callSi (As := [_, _, _]) (le := [some _, some _, some _]) rfl rfl (Nat.le_of_ble_eq_true rfl) (Nat.le_of_ble_eq_true rfl) rfl ?_
  refine z_iload rfl rfl ?_
  refine z_iload rfl rfl ?_
  refine z_icmp_ltF rfl (by omega) (by decide) (by omega) ?_
  refine z_iload rfl rfl ?_
  refine z_iload rfl rfl ?_
  refine z_icmp_gtF rfl (by omega) (by decide) (by omega) ?_
  refine z_pushI (z := 1) rfl rfl ?_
  refine z_goto rfl ?_
  refine z_bret rfl rfl (by decide) ?_
  show zW _ _ _ _ _ _ _ _ _ _
  refine z_bret rfl rfl (by decide) ?_
  show zW _ _ _ _ _ _ _ _ _ _
  refine z_if_eqF rfl (by decide) (by decide) ?_
  refine z_iload rfl rfl ?_
  refine z_callSi (As := [_]) (le := [some _]) rfl rfl (Nat.le_of_ble_eq_true rfl) (Nat.le_of_ble_eq_true rfl) rfl ?_
  refine z_iload rfl rfl ?_
  refine z_pushI (z := 0) rfl rfl ?_
  refine z_pushI (z := 5) rfl rfl ?_
  refine z_callSi (As := [_, _, _]) (le := [some _, some _, some _]) rfl rfl (Nat.le_of_ble_eq_true rfl) (Nat.le_of_ble_eq_true rfl) rfl ?_
  refine z_iload rfl rfl ?_
  refine z_iload rfl rfl ?_
  refine z_icmp_ltF rfl (by omega) (by decide) (by omega) ?_
  refine z_iload rfl rfl ?_
  refine z_iload rfl rfl ?_
  refine z_icmp_gtF rfl (by omega) (by decide) (by omega) ?_
  refine z_pushI (z := 1) rfl rfl ?_
  refine z_goto rfl ?_
  refine z_bret rfl rfl (by decide) ?_
  show zW _ _ _ _ _ _ _ _ _ _
  refine z_bret rfl rfl (by decide) ?_
  show zW _ _ _ _ _ _ _ _ _ _
  refine z_if_neT rfl (by decide) (by decide) ?_
  refine z_aload rfl rfl ?_
  refine z_getR (r := 83) rfl rfl (hRr _ rm_50_58 (by decide)) ?_
  refine z_iload rfl rfl ?_
  refine z_iald (v := J (38 + 2 * s.toNat) 1) rfl rfl (by decide) (by omega) (e83) ?_
  refine z_pushI (z := (-1)) rfl rfl ?_
  refine z_icmp_eq rfl (by omega) (by decide) (fun h1 => ?_) (fun h1 => ?_)
  · refine z_pushI (z := (-11)) rfl rfl ?_
    refine z_iret rfl rfl ?_
    refine ⟨?_, ?_⟩
    · first | rfl | exact congrArg (fun v => some (zi v)) (by omega) | (exfalso; omega)
    · exact hr
  · refine z_aload rfl rfl ?_
    refine z_getR (r := 83) rfl rfl (hRr _ rm_50_58 (by decide)) ?_
    refine z_iload rfl rfl ?_
    refine z_iald (v := (-1)) rfl rfl (by decide) (by omega) (e83o) ?_
    refine z_pushI (z := (-1)) rfl rfl ?_
    refine z_icmp_neF rfl (by decide) (by decide) (by decide) ?_
    refine z_pushI (z := (-11)) rfl rfl ?_
    refine z_iret rfl rfl ?_
    refine ⟨?_, ?_⟩
    · first | rfl | exact congrArg (fun v => some (zi v)) (by omega) | (exfalso; omega)
    · exact hr
theorem st_shift_11 {X : Nat × (Nat → Int32)} {d : Nat} {J M : zA} {R : zR} {s i o j n : Int} (hr : Rel X J M R) (hs : -2147483648 ≤ s ∧ s < 2147483648) (hi : -2147483648 ≤ i ∧ i < 2147483648) (ho : -2147483648 ≤ o ∧ o < 2147483648) (hj : -2147483648 ≤ j ∧ j < 2147483648) (hn : -2147483648 ≤ n ∧ n < 2147483648) (hs6 : 0 ≤ s ∧ s < 6) (hh : J (38 + 2 * s.toNat) 0 = 1) (ho6 : 0 ≤ o ∧ o < 6) (hho : J (38 + 2 * o.toNat) 0 = 1) : zW X (d + 20) 140 0 (gEn 140 [(.ref 0), (zi s), (zi i), (zi o), (zi j), (zi n)]) [] J M R (stP X (d + 20) 254 [(zi s), (zi i), (zi o), (zi j), (zi n)]) := by
  have hr0 := hr
  obtain ⟨hR, hG, hY, hD, hP, hC, hAc, hS, hTp, hX, hW⟩ := hr0
  have hRr : zRoR R := zRoR_of hR
  have hA0 := hAc
  obtain ⟨a1, a2, a3, a4, a5, a6⟩ := hA0
  have e83 : J 83 s = J (38 + 2 * s.toNat) 1 := (hS s hs6.1 hs6.2).1.symm.trans (cH_1 hh)
  have s3 : 0 ≤ J (38 + 2 * s.toNat) 2 ∧ J (38 + 2 * s.toNat) 2 ≤ 4 := (hS s hs6.1 hs6.2).2.2.1
  have s4 : 0 ≤ J (38 + 2 * s.toNat) 3 ∧ J (38 + 2 * s.toNat) 3 ≤ 60 := (hS s hs6.1 hs6.2).2.2.2.1
  have s5 : 0 ≤ J (38 + 2 * s.toNat) 1 ∧ J (38 + 2 * s.toNat) 1 < J 34 1 := (hS s hs6.1 hs6.2).2.2.2.2.1 hh
  have e83o : J 83 o = J (38 + 2 * o.toNat) 1 := (hS o ho6.1 ho6.2).1.symm.trans (cH_1 hho)
  have s3o : 0 ≤ J (38 + 2 * o.toNat) 2 ∧ J (38 + 2 * o.toNat) 2 ≤ 4 := (hS o ho6.1 ho6.2).2.2.1
  have s4o : 0 ≤ J (38 + 2 * o.toNat) 3 ∧ J (38 + 2 * o.toNat) 3 ≤ 60 := (hS o ho6.1 ho6.2).2.2.2.1
  have s5o : 0 ≤ J (38 + 2 * o.toNat) 1 ∧ J (38 + 2 * o.toNat) 1 < J 34 1 := (hS o ho6.1 ho6.2).2.2.2.2.1 hho
  show zW _ _ _ _ [some (.ref 0), some (zi s), some (zi i), some (zi o), some (zi j), some (zi n), none, none] _ _ _ _ _
  refine z_iload rfl rfl ?_
  refine z_callSi (As := [_]) (le := [some _]) rfl rfl (Nat.le_of_ble_eq_true rfl) (Nat.le_of_ble_eq_true rfl) rfl ?_
  refine z_iload rfl rfl ?_
  refine z_if_ltF rfl (by omega) (by omega) ?_
  refine z_iload rfl rfl ?_
  refine z_pushI (z := 6) rfl rfl ?_
  refine z_icmp_geF rfl (by omega) (by decide) (by omega) ?_
  refine z_pushI (z := 1) rfl rfl ?_
  refine z_goto rfl ?_
  refine z_bret rfl rfl (by decide) ?_
  show zW _ _ _ _ _ _ _ _ _ _
  refine z_if_eqF rfl (by decide) (by decide) ?_
  refine z_iload rfl rfl ?_
  refine z_callSi (As := [_]) (le := [some _]) rfl rfl (Nat.le_of_ble_eq_true rfl) (Nat.le_of_ble_eq_true rfl) rfl ?_
  refine z_iload rfl rfl ?_
  refine z_if_ltF rfl (by omega) (by omega) ?_
  refine z_iload rfl rfl ?_
  refine z_pushI (z := 6) rfl rfl ?_
  refine z_icmp_geF rfl (by omega) (by decide) (by omega) ?_
  refine z_pushI (z := 1) rfl rfl ?_
  refine z_goto rfl ?_
  refine z_bret rfl rfl (by decide) ?_
  show zW _ _ _ _ _ _ _ _ _ _
  refine z_if_neT rfl (by decide) (by decide) ?_
  refine z_aload rfl rfl ?_
  refine z_getR (r := 37) rfl rfl (hR _ rm_0_11) ?_
  refine z_iload rfl rfl ?_
  refine z_aald (r := 38 + 2 * s.toNat) rfl rfl (by decide) (by omega) (rr_shelf hR (by omega)) ?_
  refine z_astore rfl rfl ?_
  refine z_aload rfl rfl ?_
  refine z_getR (r := 37) rfl rfl (hR _ rm_0_11) ?_
  refine z_iload rfl rfl ?_
  refine z_aald (r := 38 + 2 * o.toNat) rfl rfl (by decide) (by omega) (rr_shelf hR (by omega)) ?_
  refine z_astore rfl rfl ?_
  refine z_aload rfl rfl ?_
  refine z_callVi (As := []) (le := [some _]) rfl rfl (zk_shelf (by omega)) (Nat.le_of_ble_eq_true rfl) (Nat.le_of_ble_eq_true rfl) rfl ?_
  refine z_aload rfl rfl ?_
  refine z_getI (v := 1) rfl (zk_shelf (by omega)) (hh) ?_
  refine z_if_neT rfl (by decide) (by decide) ?_
  refine z_pushI (z := 0) rfl rfl ?_
  refine z_bret rfl rfl (by decide) ?_
  show zW _ _ _ _ _ _ _ _ _ _
  refine z_if_neF rfl (by decide) (by decide) ?_
  refine z_aload rfl rfl ?_
  refine z_callVi (As := []) (le := [some _]) rfl rfl (zk_shelf (by omega)) (Nat.le_of_ble_eq_true rfl) (Nat.le_of_ble_eq_true rfl) rfl ?_
  refine z_aload rfl rfl ?_
  refine z_getI (v := 1) rfl (zk_shelf (by omega)) (hho) ?_
  refine z_if_neT rfl (by decide) (by decide) ?_
  refine z_pushI (z := 0) rfl rfl ?_
  refine z_bret rfl rfl (by decide) ?_
  show zW _ _ _ _ _ _ _ _ _ _
  refine z_if_eqT rfl (by decide) (by decide) ?_
  refine z_aload rfl rfl ?_
  refine z_aload rfl rfl ?_
  refine z_callVi (As := [_]) (le := [some _, some _]) rfl rfl (zk_shelf (by omega)) (Nat.le_of_ble_eq_true rfl) (Nat.le_of_ble_eq_true rfl) rfl ?_
  refine z_aload rfl rfl ?_
  refine z_getI (v := 1) rfl (zk_shelf (by omega)) (hh) ?_
  refine z_pushI (z := 2) rfl rfl ?_
  refine z_icmp_neT rfl (by decide) (by decide) (by decide) ?_
  refine z_pushI (z := 0) rfl rfl ?_
  refine z_bret rfl rfl (by decide) ?_
  show zW _ _ _ _ _ _ _ _ _ _
  refine z_if_neF rfl (by decide) (by decide) ?_
  refine z_pushI (z := (-12)) rfl rfl ?_
  refine z_iret rfl rfl ?_
  refine ⟨_, rfl, ?_⟩
  show zW _ _ _ _ [some (.ref 50), some (zi s), some (zi i), some (zi o), some (zi j), some (zi n), none] _ _ _ _ _
  refine z_iload rfl rfl ?_
  refine z_callSi (As := [_]) (le := [some _]) rfl rfl (Nat.le_of_ble_eq_true rfl) (Nat.le_of_ble_eq_true rfl) rfl ?_
  refine z_iload rfl rfl ?_
  refine z_pushI (z := 0) rfl rfl ?_
  refine z_pushI (z := 5) rfl rfl ?_
  refine z_callSi (As := [_, _, _]) (le := [some _, some _, some _]) rfl rfl (Nat.le_of_ble_eq_true rfl) (Nat.le_of_ble_eq_true rfl) rfl ?_
  refine z_iload rfl rfl ?_
  refine z_iload rfl rfl ?_
  refine z_icmp_ltF rfl (by omega) (by decide) (by omega) ?_
  refine z_iload rfl rfl ?_
  refine z_iload rfl rfl ?_
  refine z_icmp_gtF rfl (by omega) (by decide) (by omega) ?_
  refine z_pushI (z := 1) rfl rfl ?_
  refine z_goto rfl ?_
  refine z_bret rfl rfl (by decide) ?_
  show zW _ _ _ _ _ _ _ _ _ _
  refine z_bret rfl rfl (by decide) ?_
  show zW _ _ _ _ _ _ _ _ _ _
  refine z_if_eqF rfl (by decide) (by decide) ?_
  refine z_iload rfl rfl ?_
  refine z_callSi (As := [_]) (le := [some _]) rfl rfl (Nat.le_of_ble_eq_true rfl) (Nat.le_of_ble_eq_true rfl) rfl ?_
  refine z_iload rfl rfl ?_
  refine z_pushI (z := 0) rfl rfl ?_
  refine z_pushI (z := 5) rfl rfl ?_
  refine z_callSi (As := [_, _, _]) (le := [some _, some _, some _]) rfl rfl (Nat.le_of_ble_eq_true rfl) (Nat.le_of_ble_eq_true rfl) rfl ?_
  refine z_iload rfl rfl ?_
  refine z_iload rfl rfl ?_
  refine z_icmp_ltF rfl (by omega) (by decide) (by omega) ?_
  refine z_iload rfl rfl ?_
  refine z_iload rfl rfl ?_
  refine z_icmp_gtF rfl (by omega) (by decide) (by omega) ?_
  refine z_pushI (z := 1) rfl rfl ?_
  refine z_goto rfl ?_
  refine z_bret rfl rfl (by decide) ?_
  show zW _ _ _ _ _ _ _ _ _ _
  refine z_bret rfl rfl (by decide) ?_
  show zW _ _ _ _ _ _ _ _ _ _
  refine z_if_neT rfl (by decide) (by decide) ?_
  refine z_aload rfl rfl ?_
  refine z_getR (r := 83) rfl rfl (hRr _ rm_50_58 (by decide)) ?_
  refine z_iload rfl rfl ?_
  refine z_iald (v := J (38 + 2 * s.toNat) 1) rfl rfl (by decide) (by omega) (e83) ?_
  refine z_pushI (z := (-1)) rfl rfl ?_
  refine z_icmp_eq rfl (by omega) (by decide) (fun h1 => ?_) (fun h1 => ?_)
  · refine z_pushI (z := (-11)) rfl rfl ?_
    refine z_iret rfl rfl ?_
    refine ⟨?_, ?_⟩
    · first | rfl | exact congrArg (fun v => some (zi v)) (by omega) | (exfalso; omega)
    · exact hr
  · refine z_aload rfl rfl ?_
    refine z_getR (r := 83) rfl rfl (hRr _ rm_50_58 (by decide)) ?_
    refine z_iload rfl rfl ?_
    refine z_iald (v := J (38 + 2 * o.toNat) 1) rfl rfl (by decide) (by omega) (e83o) ?_
    refine z_pushI (z := (-1)) rfl rfl ?_
    refine z_icmp_ne rfl (by omega) (by decide) (fun h2 => ?_) (fun h2 => ?_)
    · refine z_aload rfl rfl ?_
      refine z_getR (r := 83) rfl rfl (hRr _ rm_50_58 (by decide)) ?_
      refine z_iload rfl rfl ?_
      refine z_iald (v := J (38 + 2 * s.toNat) 1) rfl rfl (by decide) (by omega) (e83) ?_
      refine z_if_ge rfl (by omega) (fun h3 => ?_) (fun h3 => ?_)
      · refine z_pushI (z := (-12)) rfl rfl ?_
        refine z_iret rfl rfl ?_
        refine ⟨?_, ?_⟩
        · first | rfl | exact congrArg (fun v => some (zi v)) (by omega) | (exfalso; omega)
        · exact hr
      · refine z_aload rfl rfl ?_
        refine z_getR (r := 83) rfl rfl (hRr _ rm_50_58 (by decide)) ?_
        refine z_iload rfl rfl ?_
        refine z_iald (v := J (38 + 2 * s.toNat) 1) rfl rfl (by decide) (by omega) (e83) ?_
        refine z_aload rfl rfl ?_
        refine z_getR (r := 83) rfl rfl (hRr _ rm_50_58 (by decide)) ?_
        refine z_iload rfl rfl ?_
        refine z_iald (v := J (38 + 2 * o.toNat) 1) rfl rfl (by decide) (by omega) (e83o) ?_
        refine z_icmp_eq rfl (by omega) (by omega) (fun h4 => ?_) (fun h4 => ?_)
        · refine z_iload rfl rfl ?_
          refine z_if_lt rfl (by omega) (fun h5 => ?_) (fun h5 => ?_)
          · refine z_pushI (z := (-13)) rfl rfl ?_
            refine z_iret rfl rfl ?_
            refine ⟨?_, ?_⟩
            · first | rfl | exact congrArg (fun v => some (zi v)) (by omega) | (exfalso; omega)
            · exact hr
          · refine z_iload rfl rfl ?_
            refine z_if_lt rfl (by omega) (fun h6 => ?_) (fun h6 => ?_)
            · refine z_pushI (z := (-13)) rfl rfl ?_
              refine z_iret rfl rfl ?_
              refine ⟨?_, ?_⟩
              · first | rfl | exact congrArg (fun v => some (zi v)) (by omega) | (exfalso; omega)
              · exact hr
            · refine z_iload rfl rfl ?_
              refine z_if_lt rfl (by omega) (fun h7 => ?_) (fun h7 => ?_)
              · refine z_pushI (z := (-13)) rfl rfl ?_
                refine z_iret rfl rfl ?_
                refine ⟨?_, ?_⟩
                · first | rfl | exact congrArg (fun v => some (zi v)) (by omega) | (exfalso; omega)
                · exact hr
              · refine z_iload rfl rfl ?_
                refine z_aload rfl rfl ?_
                refine z_getR (r := 84) rfl rfl (hRr _ rm_50_59 (by decide)) ?_
                refine z_iload rfl rfl ?_
                refine z_iald (v := J 84 s) rfl rfl (by decide) (by omega) (rfl) ?_
                refine z_iload rfl rfl ?_
                refine z_isub (e := (J 84 s) - n) rfl rfl ?_
                refine z_icmp_gt rfl (by omega) (by omega) (fun h8 => ?_) (fun h8 => ?_)
                · refine z_pushI (z := (-13)) rfl rfl ?_
                  refine z_iret rfl rfl ?_
                  refine ⟨?_, ?_⟩
                  · first | rfl | exact congrArg (fun v => some (zi v)) (by omega) | (exfalso; omega)
                  · exact hr
                · refine z_iload rfl rfl ?_
                  refine z_aload rfl rfl ?_
                  refine z_getR (r := 84) rfl rfl (hRr _ rm_50_59 (by decide)) ?_
                  refine z_iload rfl rfl ?_
                  refine z_iald (v := J 84 o) rfl rfl (by decide) (by omega) (rfl) ?_
                  refine z_iload rfl rfl ?_
                  refine z_isub (e := (J 84 o) - n) rfl rfl ?_
                  refine z_icmp_le rfl (by omega) (by omega) (fun h9 => ?_) (fun h9 => ?_)
                  · refine z_pushI (z := 0) rfl rfl ?_
                    refine z_istore rfl rfl ?_
                    show zW _ _ _ _ [some (.ref 50), some (zi s), some (zi i), some (zi o), some (zi j), some (zi n), some (zi 0)] [] _ _ _ _
                    refine shift1_k hRr (by omega) (by omega) ?_
                    refine z_pushI (z := 0) rfl rfl ?_
                    refine z_istore rfl rfl ?_
                    show zW _ _ _ _ [some (.ref 50), some (zi s), some (zi i), some (zi o), some (zi j), some (zi n), some (zi 0)] [] _ _ _ _
                    refine shift2_k hRr (by omega) (by omega) ?_
                    refine z_iload rfl rfl ?_
                    refine z_iret rfl rfl ?_
                    refine ⟨?_, ?_⟩
                    · exfalso
                      omega
                    · exfalso
                      omega
                  · refine z_pushI (z := (-13)) rfl rfl ?_
                    refine z_iret rfl rfl ?_
                    refine ⟨?_, ?_⟩
                    · first | rfl | exact congrArg (fun v => some (zi v)) (by omega) | (exfalso; omega)
                    · exact hr
        · refine z_pushI (z := (-12)) rfl rfl ?_
          refine z_iret rfl rfl ?_
          refine ⟨?_, ?_⟩
          · first | rfl | exact congrArg (fun v => some (zi v)) (by omega) | (exfalso; omega)
          · exact hr
    · refine z_pushI (z := (-11)) rfl rfl ?_
      refine z_iret rfl rfl ?_
      refine ⟨?_, ?_⟩
      · first | rfl | exact congrArg (fun v => some (zi v)) (by omega) | (exfalso; omega)
      · exact hr
theorem st_shift_12 {X : Nat × (Nat → Int32)} {d : Nat} {J M : zA} {R : zR} {s i o j n : Int} (hr : Rel X J M R) (hs : -2147483648 ≤ s ∧ s < 2147483648) (hi : -2147483648 ≤ i ∧ i < 2147483648) (ho : -2147483648 ≤ o ∧ o < 2147483648) (hj : -2147483648 ≤ j ∧ j < 2147483648) (hn : -2147483648 ≤ n ∧ n < 2147483648) (hs6 : 0 ≤ s ∧ s < 6) (hh : J (38 + 2 * s.toNat) 0 = 1) (ho6 : 0 ≤ o ∧ o < 6) (hho : J (38 + 2 * o.toNat) 0 = 2) : zW X (d + 20) 140 0 (gEn 140 [(.ref 0), (zi s), (zi i), (zi o), (zi j), (zi n)]) [] J M R (stP X (d + 20) 254 [(zi s), (zi i), (zi o), (zi j), (zi n)]) := by
  have hr0 := hr
  obtain ⟨hR, hG, hY, hD, hP, hC, hAc, hS, hTp, hX, hW⟩ := hr0
  have hRr : zRoR R := zRoR_of hR
  have hA0 := hAc
  obtain ⟨a1, a2, a3, a4, a5, a6⟩ := hA0
  have e83 : J 83 s = J (38 + 2 * s.toNat) 1 := (hS s hs6.1 hs6.2).1.symm.trans (cH_1 hh)
  have s3 : 0 ≤ J (38 + 2 * s.toNat) 2 ∧ J (38 + 2 * s.toNat) 2 ≤ 4 := (hS s hs6.1 hs6.2).2.2.1
  have s4 : 0 ≤ J (38 + 2 * s.toNat) 3 ∧ J (38 + 2 * s.toNat) 3 ≤ 60 := (hS s hs6.1 hs6.2).2.2.2.1
  have s5 : 0 ≤ J (38 + 2 * s.toNat) 1 ∧ J (38 + 2 * s.toNat) 1 < J 34 1 := (hS s hs6.1 hs6.2).2.2.2.2.1 hh
  have e83o : J 83 o = -2 - J (38 + 2 * o.toNat) 2 := (hS o ho6.1 ho6.2).1.symm.trans (cH_2 hho)
  have s3o : 0 ≤ J (38 + 2 * o.toNat) 2 ∧ J (38 + 2 * o.toNat) 2 ≤ 4 := (hS o ho6.1 ho6.2).2.2.1
  have s4o : 0 ≤ J (38 + 2 * o.toNat) 3 ∧ J (38 + 2 * o.toNat) 3 ≤ 60 := (hS o ho6.1 ho6.2).2.2.2.1
  have s6o := (hS o ho6.1 ho6.2).2.2.2.2.2 hho
  have s7o : J 84 o = J (38 + 2 * o.toNat) 3 := s6o.1.symm
  have s8o : ∀ i, 0 ≤ i → i < J (38 + 2 * o.toNat) 3 → M (39 + 2 * o.toNat) i = M 85 (60 * o + i) := s6o.2.1
  show zW _ _ _ _ [some (.ref 0), some (zi s), some (zi i), some (zi o), some (zi j), some (zi n), none, none] _ _ _ _ _
  refine z_iload rfl rfl ?_
  refine z_callSi (As := [_]) (le := [some _]) rfl rfl (Nat.le_of_ble_eq_true rfl) (Nat.le_of_ble_eq_true rfl) rfl ?_
  refine z_iload rfl rfl ?_
  refine z_if_ltF rfl (by omega) (by omega) ?_
  refine z_iload rfl rfl ?_
  refine z_pushI (z := 6) rfl rfl ?_
  refine z_icmp_geF rfl (by omega) (by decide) (by omega) ?_
  refine z_pushI (z := 1) rfl rfl ?_
  refine z_goto rfl ?_
  refine z_bret rfl rfl (by decide) ?_
  show zW _ _ _ _ _ _ _ _ _ _
  refine z_if_eqF rfl (by decide) (by decide) ?_
  refine z_iload rfl rfl ?_
  refine z_callSi (As := [_]) (le := [some _]) rfl rfl (Nat.le_of_ble_eq_true rfl) (Nat.le_of_ble_eq_true rfl) rfl ?_
  refine z_iload rfl rfl ?_
  refine z_if_ltF rfl (by omega) (by omega) ?_
  refine z_iload rfl rfl ?_
  refine z_pushI (z := 6) rfl rfl ?_
  refine z_icmp_geF rfl (by omega) (by decide) (by omega) ?_
  refine z_pushI (z := 1) rfl rfl ?_
  refine z_goto rfl ?_
  refine z_bret rfl rfl (by decide) ?_
  show zW _ _ _ _ _ _ _ _ _ _
  refine z_if_neT rfl (by decide) (by decide) ?_
  refine z_aload rfl rfl ?_
  refine z_getR (r := 37) rfl rfl (hR _ rm_0_11) ?_
  refine z_iload rfl rfl ?_
  refine z_aald (r := 38 + 2 * s.toNat) rfl rfl (by decide) (by omega) (rr_shelf hR (by omega)) ?_
  refine z_astore rfl rfl ?_
  refine z_aload rfl rfl ?_
  refine z_getR (r := 37) rfl rfl (hR _ rm_0_11) ?_
  refine z_iload rfl rfl ?_
  refine z_aald (r := 38 + 2 * o.toNat) rfl rfl (by decide) (by omega) (rr_shelf hR (by omega)) ?_
  refine z_astore rfl rfl ?_
  refine z_aload rfl rfl ?_
  refine z_callVi (As := []) (le := [some _]) rfl rfl (zk_shelf (by omega)) (Nat.le_of_ble_eq_true rfl) (Nat.le_of_ble_eq_true rfl) rfl ?_
  refine z_aload rfl rfl ?_
  refine z_getI (v := 1) rfl (zk_shelf (by omega)) (hh) ?_
  refine z_if_neT rfl (by decide) (by decide) ?_
  refine z_pushI (z := 0) rfl rfl ?_
  refine z_bret rfl rfl (by decide) ?_
  show zW _ _ _ _ _ _ _ _ _ _
  refine z_if_neF rfl (by decide) (by decide) ?_
  refine z_aload rfl rfl ?_
  refine z_callVi (As := []) (le := [some _]) rfl rfl (zk_shelf (by omega)) (Nat.le_of_ble_eq_true rfl) (Nat.le_of_ble_eq_true rfl) rfl ?_
  refine z_aload rfl rfl ?_
  refine z_getI (v := 2) rfl (zk_shelf (by omega)) (hho) ?_
  refine z_if_neT rfl (by decide) (by decide) ?_
  refine z_pushI (z := 0) rfl rfl ?_
  refine z_bret rfl rfl (by decide) ?_
  show zW _ _ _ _ _ _ _ _ _ _
  refine z_if_eqT rfl (by decide) (by decide) ?_
  refine z_aload rfl rfl ?_
  refine z_aload rfl rfl ?_
  refine z_callVi (As := [_]) (le := [some _, some _]) rfl rfl (zk_shelf (by omega)) (Nat.le_of_ble_eq_true rfl) (Nat.le_of_ble_eq_true rfl) rfl ?_
  refine z_aload rfl rfl ?_
  refine z_getI (v := 1) rfl (zk_shelf (by omega)) (hh) ?_
  refine z_pushI (z := 2) rfl rfl ?_
  refine z_icmp_neT rfl (by decide) (by decide) (by decide) ?_
  refine z_pushI (z := 0) rfl rfl ?_
  refine z_bret rfl rfl (by decide) ?_
  show zW _ _ _ _ _ _ _ _ _ _
  refine z_if_neF rfl (by decide) (by decide) ?_
  refine z_pushI (z := (-12)) rfl rfl ?_
  refine z_iret rfl rfl ?_
  refine ⟨_, rfl, ?_⟩
  show zW _ _ _ _ [some (.ref 50), some (zi s), some (zi i), some (zi o), some (zi j), some (zi n), none] _ _ _ _ _
  refine z_iload rfl rfl ?_
  refine z_callSi (As := [_]) (le := [some _]) rfl rfl (Nat.le_of_ble_eq_true rfl) (Nat.le_of_ble_eq_true rfl) rfl ?_
  refine z_iload rfl rfl ?_
  refine z_pushI (z := 0) rfl rfl ?_
  refine z_pushI (z := 5) rfl rfl ?_
  refine z_callSi (As := [_, _, _]) (le := [some _, some _, some _]) rfl rfl (Nat.le_of_ble_eq_true rfl) (Nat.le_of_ble_eq_true rfl) rfl ?_
  refine z_iload rfl rfl ?_
  refine z_iload rfl rfl ?_
  refine z_icmp_ltF rfl (by omega) (by decide) (by omega) ?_
  refine z_iload rfl rfl ?_
  refine z_iload rfl rfl ?_
  refine z_icmp_gtF rfl (by omega) (by decide) (by omega) ?_
  refine z_pushI (z := 1) rfl rfl ?_
  refine z_goto rfl ?_
  refine z_bret rfl rfl (by decide) ?_
  show zW _ _ _ _ _ _ _ _ _ _
  refine z_bret rfl rfl (by decide) ?_
  show zW _ _ _ _ _ _ _ _ _ _
  refine z_if_eqF rfl (by decide) (by decide) ?_
  refine z_iload rfl rfl ?_
  refine z_callSi (As := [_]) (le := [some _]) rfl rfl (Nat.le_of_ble_eq_true rfl) (Nat.le_of_ble_eq_true rfl) rfl ?_
  refine z_iload rfl rfl ?_
  refine z_pushI (z := 0) rfl rfl ?_
  refine z_pushI (z := 5) rfl rfl ?_
  refine z_callSi (As := [_, _, _]) (le := [some _, some _, some _]) rfl rfl (Nat.le_of_ble_eq_true rfl) (Nat.le_of_ble_eq_true rfl) rfl ?_
  refine z_iload rfl rfl ?_
  refine z_iload rfl rfl ?_
  refine z_icmp_ltF rfl (by omega) (by decide) (by omega) ?_
  refine z_iload rfl rfl ?_
  refine z_iload rfl rfl ?_
  refine z_icmp_gtF rfl (by omega) (by decide) (by omega) ?_
  refine z_pushI (z := 1) rfl rfl ?_
  refine z_goto rfl ?_
  refine z_bret rfl rfl (by decide) ?_
  show zW _ _ _ _ _ _ _ _ _ _
  refine z_bret rfl rfl (by decide) ?_
  show zW _ _ _ _ _ _ _ _ _ _
  refine z_if_neT rfl (by decide) (by decide) ?_
  refine z_aload rfl rfl ?_
  refine z_getR (r := 83) rfl rfl (hRr _ rm_50_58 (by decide)) ?_
  refine z_iload rfl rfl ?_
  refine z_iald (v := J (38 + 2 * s.toNat) 1) rfl rfl (by decide) (by omega) (e83) ?_
  refine z_pushI (z := (-1)) rfl rfl ?_
  refine z_icmp_eq rfl (by omega) (by decide) (fun h1 => ?_) (fun h1 => ?_)
  · refine z_pushI (z := (-11)) rfl rfl ?_
    refine z_iret rfl rfl ?_
    refine ⟨?_, ?_⟩
    · first | rfl | exact congrArg (fun v => some (zi v)) (by omega) | (exfalso; omega)
    · exact hr
  · refine z_aload rfl rfl ?_
    refine z_getR (r := 83) rfl rfl (hRr _ rm_50_58 (by decide)) ?_
    refine z_iload rfl rfl ?_
    refine z_iald (v := (-2) - (J (38 + 2 * o.toNat) 2)) rfl rfl (by decide) (by omega) (e83o) ?_
    refine z_pushI (z := (-1)) rfl rfl ?_
    refine z_icmp_ne rfl (by omega) (by decide) (fun h2 => ?_) (fun h2 => ?_)
    · refine z_aload rfl rfl ?_
      refine z_getR (r := 83) rfl rfl (hRr _ rm_50_58 (by decide)) ?_
      refine z_iload rfl rfl ?_
      refine z_iald (v := J (38 + 2 * s.toNat) 1) rfl rfl (by decide) (by omega) (e83) ?_
      refine z_if_ge rfl (by omega) (fun h3 => ?_) (fun h3 => ?_)
      · refine z_pushI (z := (-12)) rfl rfl ?_
        refine z_iret rfl rfl ?_
        refine ⟨?_, ?_⟩
        · first | rfl | exact congrArg (fun v => some (zi v)) (by omega) | (exfalso; omega)
        · exact hr
      · refine z_aload rfl rfl ?_
        refine z_getR (r := 83) rfl rfl (hRr _ rm_50_58 (by decide)) ?_
        refine z_iload rfl rfl ?_
        refine z_iald (v := J (38 + 2 * s.toNat) 1) rfl rfl (by decide) (by omega) (e83) ?_
        refine z_aload rfl rfl ?_
        refine z_getR (r := 83) rfl rfl (hRr _ rm_50_58 (by decide)) ?_
        refine z_iload rfl rfl ?_
        refine z_iald (v := (-2) - (J (38 + 2 * o.toNat) 2)) rfl rfl (by decide) (by omega) (e83o) ?_
        refine z_icmp_eq rfl (by omega) (by omega) (fun h4 => ?_) (fun h4 => ?_)
        · refine z_iload rfl rfl ?_
          refine z_if_lt rfl (by omega) (fun h5 => ?_) (fun h5 => ?_)
          · refine z_pushI (z := (-13)) rfl rfl ?_
            refine z_iret rfl rfl ?_
            refine ⟨?_, ?_⟩
            · first | rfl | exact congrArg (fun v => some (zi v)) (by omega) | (exfalso; omega)
            · exact hr
          · refine z_iload rfl rfl ?_
            refine z_if_lt rfl (by omega) (fun h6 => ?_) (fun h6 => ?_)
            · refine z_pushI (z := (-13)) rfl rfl ?_
              refine z_iret rfl rfl ?_
              refine ⟨?_, ?_⟩
              · first | rfl | exact congrArg (fun v => some (zi v)) (by omega) | (exfalso; omega)
              · exact hr
            · refine z_iload rfl rfl ?_
              refine z_if_lt rfl (by omega) (fun h7 => ?_) (fun h7 => ?_)
              · refine z_pushI (z := (-13)) rfl rfl ?_
                refine z_iret rfl rfl ?_
                refine ⟨?_, ?_⟩
                · first | rfl | exact congrArg (fun v => some (zi v)) (by omega) | (exfalso; omega)
                · exact hr
              · refine z_iload rfl rfl ?_
                refine z_aload rfl rfl ?_
                refine z_getR (r := 84) rfl rfl (hRr _ rm_50_59 (by decide)) ?_
                refine z_iload rfl rfl ?_
                refine z_iald (v := J 84 s) rfl rfl (by decide) (by omega) (rfl) ?_
                refine z_iload rfl rfl ?_
                refine z_isub (e := (J 84 s) - n) rfl rfl ?_
                refine z_icmp_gt rfl (by omega) (by omega) (fun h8 => ?_) (fun h8 => ?_)
                · refine z_pushI (z := (-13)) rfl rfl ?_
                  refine z_iret rfl rfl ?_
                  refine ⟨?_, ?_⟩
                  · first | rfl | exact congrArg (fun v => some (zi v)) (by omega) | (exfalso; omega)
                  · exact hr
                · refine z_iload rfl rfl ?_
                  refine z_aload rfl rfl ?_
                  refine z_getR (r := 84) rfl rfl (hRr _ rm_50_59 (by decide)) ?_
                  refine z_iload rfl rfl ?_
                  refine z_iald (v := J (38 + 2 * o.toNat) 3) rfl rfl (by decide) (by omega) (s7o) ?_
                  refine z_iload rfl rfl ?_
                  refine z_isub (e := (J (38 + 2 * o.toNat) 3) - n) rfl rfl ?_
                  refine z_icmp_le rfl (by omega) (by omega) (fun h9 => ?_) (fun h9 => ?_)
                  · refine z_pushI (z := 0) rfl rfl ?_
                    refine z_istore rfl rfl ?_
                    show zW _ _ _ _ [some (.ref 50), some (zi s), some (zi i), some (zi o), some (zi j), some (zi n), some (zi 0)] [] _ _ _ _
                    refine shift1_k hRr (by omega) (by omega) ?_
                    refine z_pushI (z := 0) rfl rfl ?_
                    refine z_istore rfl rfl ?_
                    show zW _ _ _ _ [some (.ref 50), some (zi s), some (zi i), some (zi o), some (zi j), some (zi n), some (zi 0)] [] _ _ _ _
                    refine shift2_k hRr (by omega) (by omega) ?_
                    refine z_iload rfl rfl ?_
                    refine z_iret rfl rfl ?_
                    refine ⟨?_, ?_⟩
                    · exfalso
                      omega
                    · exfalso
                      omega
                  · refine z_pushI (z := (-13)) rfl rfl ?_
                    refine z_iret rfl rfl ?_
                    refine ⟨?_, ?_⟩
                    · first | rfl | exact congrArg (fun v => some (zi v)) (by omega) | (exfalso; omega)
                    · exact hr
        · refine z_pushI (z := (-12)) rfl rfl ?_
          refine z_iret rfl rfl ?_
          refine ⟨?_, ?_⟩
          · first | rfl | exact congrArg (fun v => some (zi v)) (by omega) | (exfalso; omega)
          · exact hr
    · refine z_pushI (z := (-11)) rfl rfl ?_
      refine z_iret rfl rfl ?_
      refine ⟨?_, ?_⟩
      · first | rfl | exact congrArg (fun v => some (zi v)) (by omega) | (exfalso; omega)
      · exact hr
theorem st_shift_20 {X : Nat × (Nat → Int32)} {d : Nat} {J M : zA} {R : zR} {s i o j n : Int} (hr : Rel X J M R) (hs : -2147483648 ≤ s ∧ s < 2147483648) (hi : -2147483648 ≤ i ∧ i < 2147483648) (ho : -2147483648 ≤ o ∧ o < 2147483648) (hj : -2147483648 ≤ j ∧ j < 2147483648) (hn : -2147483648 ≤ n ∧ n < 2147483648) (hs6 : 0 ≤ s ∧ s < 6) (hh : J (38 + 2 * s.toNat) 0 = 2) (ho6 : 0 ≤ o ∧ o < 6) (hho : J (38 + 2 * o.toNat) 0 = 0) : zW X (d + 20) 140 0 (gEn 140 [(.ref 0), (zi s), (zi i), (zi o), (zi j), (zi n)]) [] J M R (stP X (d + 20) 254 [(zi s), (zi i), (zi o), (zi j), (zi n)]) := by
  have hr0 := hr
  obtain ⟨hR, hG, hY, hD, hP, hC, hAc, hS, hTp, hX, hW⟩ := hr0
  have hRr : zRoR R := zRoR_of hR
  have hA0 := hAc
  obtain ⟨a1, a2, a3, a4, a5, a6⟩ := hA0
  have e83 : J 83 s = -2 - J (38 + 2 * s.toNat) 2 := (hS s hs6.1 hs6.2).1.symm.trans (cH_2 hh)
  have s3 : 0 ≤ J (38 + 2 * s.toNat) 2 ∧ J (38 + 2 * s.toNat) 2 ≤ 4 := (hS s hs6.1 hs6.2).2.2.1
  have s4 : 0 ≤ J (38 + 2 * s.toNat) 3 ∧ J (38 + 2 * s.toNat) 3 ≤ 60 := (hS s hs6.1 hs6.2).2.2.2.1
  have s6 := (hS s hs6.1 hs6.2).2.2.2.2.2 hh
  have s7 : J 84 s = J (38 + 2 * s.toNat) 3 := s6.1.symm
  have s8 : ∀ i, 0 ≤ i → i < J (38 + 2 * s.toNat) 3 → M (39 + 2 * s.toNat) i = M 85 (60 * s + i) := s6.2.1
  have e83o : J 83 o = -1 := (hS o ho6.1 ho6.2).1.symm.trans (cH_0 hho)
  have s3o : 0 ≤ J (38 + 2 * o.toNat) 2 ∧ J (38 + 2 * o.toNat) 2 ≤ 4 := (hS o ho6.1 ho6.2).2.2.1
  have s4o : 0 ≤ J (38 + 2 * o.toNat) 3 ∧ J (38 + 2 * o.toNat) 3 ≤ 60 := (hS o ho6.1 ho6.2).2.2.2.1
  show zW _ _ _ _ [some (.ref 0), some (zi s), some (zi i), some (zi o), some (zi j), some (zi n), none, none] _ _ _ _ _
  refine z_iload rfl rfl ?_
  refine z_callSi (As := [_]) (le := [some _]) rfl rfl (Nat.le_of_ble_eq_true rfl) (Nat.le_of_ble_eq_true rfl) rfl ?_
  refine z_iload rfl rfl ?_
  refine z_if_ltF rfl (by omega) (by omega) ?_
  refine z_iload rfl rfl ?_
  refine z_pushI (z := 6) rfl rfl ?_
  refine z_icmp_geF rfl (by omega) (by decide) (by omega) ?_
  refine z_pushI (z := 1) rfl rfl ?_
  refine z_goto rfl ?_
  refine z_bret rfl rfl (by decide) ?_
  show zW _ _ _ _ _ _ _ _ _ _
  refine z_if_eqF rfl (by decide) (by decide) ?_
  refine z_iload rfl rfl ?_
  refine z_callSi (As := [_]) (le := [some _]) rfl rfl (Nat.le_of_ble_eq_true rfl) (Nat.le_of_ble_eq_true rfl) rfl ?_
  refine z_iload rfl rfl ?_
  refine z_if_ltF rfl (by omega) (by omega) ?_
  refine z_iload rfl rfl ?_
  refine z_pushI (z := 6) rfl rfl ?_
  refine z_icmp_geF rfl (by omega) (by decide) (by omega) ?_
  refine z_pushI (z := 1) rfl rfl ?_
  refine z_goto rfl ?_
  refine z_bret rfl rfl (by decide) ?_
  show zW _ _ _ _ _ _ _ _ _ _
  refine z_if_neT rfl (by decide) (by decide) ?_
  refine z_aload rfl rfl ?_
  refine z_getR (r := 37) rfl rfl (hR _ rm_0_11) ?_
  refine z_iload rfl rfl ?_
  refine z_aald (r := 38 + 2 * s.toNat) rfl rfl (by decide) (by omega) (rr_shelf hR (by omega)) ?_
  refine z_astore rfl rfl ?_
  refine z_aload rfl rfl ?_
  refine z_getR (r := 37) rfl rfl (hR _ rm_0_11) ?_
  refine z_iload rfl rfl ?_
  refine z_aald (r := 38 + 2 * o.toNat) rfl rfl (by decide) (by omega) (rr_shelf hR (by omega)) ?_
  refine z_astore rfl rfl ?_
  refine z_aload rfl rfl ?_
  refine z_callVi (As := []) (le := [some _]) rfl rfl (zk_shelf (by omega)) (Nat.le_of_ble_eq_true rfl) (Nat.le_of_ble_eq_true rfl) rfl ?_
  refine z_aload rfl rfl ?_
  refine z_getI (v := 2) rfl (zk_shelf (by omega)) (hh) ?_
  refine z_if_neT rfl (by decide) (by decide) ?_
  refine z_pushI (z := 0) rfl rfl ?_
  refine z_bret rfl rfl (by decide) ?_
  show zW _ _ _ _ _ _ _ _ _ _
  refine z_if_neF rfl (by decide) (by decide) ?_
  refine z_aload rfl rfl ?_
  refine z_callVi (As := []) (le := [some _]) rfl rfl (zk_shelf (by omega)) (Nat.le_of_ble_eq_true rfl) (Nat.le_of_ble_eq_true rfl) rfl ?_
  refine z_aload rfl rfl ?_
  refine z_getI (v := 0) rfl (zk_shelf (by omega)) (hho) ?_
  refine z_if_neF rfl (by decide) (by decide) ?_
  refine z_pushI (z := 1) rfl rfl ?_
  refine z_goto rfl ?_
  refine z_bret rfl rfl (by decide) ?_
  show zW _ _ _ _ _ _ _ _ _ _
  refine z_if_eqF rfl (by decide) (by decide) ?_
  refine z_pushI (z := (-11)) rfl rfl ?_
  refine z_iret rfl rfl ?_
  refine ⟨_, rfl, ?_⟩
  show zW _ _ _ _ [some (.ref 50), some (zi s), some (zi i), some (zi o), some (zi j), some (zi n), none] _ _ _ _ _
  refine z_iload rfl rfl ?_
  refine z_callSi (As := [_]) (le := [some _]) rfl rfl (Nat.le_of_ble_eq_true rfl) (Nat.le_of_ble_eq_true rfl) rfl ?_
  refine z_iload rfl rfl ?_
  refine z_pushI (z := 0) rfl rfl ?_
  refine z_pushI (z := 5) rfl rfl ?_
  refine z_callSi (As := [_, _, _]) (le := [some _, some _, some _]) rfl rfl (Nat.le_of_ble_eq_true rfl) (Nat.le_of_ble_eq_true rfl) rfl ?_
  refine z_iload rfl rfl ?_
  refine z_iload rfl rfl ?_
  refine z_icmp_ltF rfl (by omega) (by decide) (by omega) ?_
  refine z_iload rfl rfl ?_
  refine z_iload rfl rfl ?_
  refine z_icmp_gtF rfl (by omega) (by decide) (by omega) ?_
  refine z_pushI (z := 1) rfl rfl ?_
  refine z_goto rfl ?_
  refine z_bret rfl rfl (by decide) ?_
  show zW _ _ _ _ _ _ _ _ _ _
  refine z_bret rfl rfl (by decide) ?_
  show zW _ _ _ _ _ _ _ _ _ _
  refine z_if_eqF rfl (by decide) (by decide) ?_
  refine z_iload rfl rfl ?_
  refine z_callSi (As := [_]) (le := [some _]) rfl rfl (Nat.le_of_ble_eq_true rfl) (Nat.le_of_ble_eq_true rfl) rfl ?_
  refine z_iload rfl rfl ?_
  refine z_pushI (z := 0) rfl rfl ?_
  refine z_pushI (z := 5) rfl rfl ?_
  refine z_callSi (As := [_, _, _]) (le := [some _, some _, some _]) rfl rfl (Nat.le_of_ble_eq_true rfl) (Nat.le_of_ble_eq_true rfl) rfl ?_
  refine z_iload rfl rfl ?_
  refine z_iload rfl rfl ?_
  refine z_icmp_ltF rfl (by omega) (by decide) (by omega) ?_
  refine z_iload rfl rfl ?_
  refine z_iload rfl rfl ?_
  refine z_icmp_gtF rfl (by omega) (by decide) (by omega) ?_
  refine z_pushI (z := 1) rfl rfl ?_
  refine z_goto rfl ?_
  refine z_bret rfl rfl (by decide) ?_
  show zW _ _ _ _ _ _ _ _ _ _
  refine z_bret rfl rfl (by decide) ?_
  show zW _ _ _ _ _ _ _ _ _ _
  refine z_if_neT rfl (by decide) (by decide) ?_
  refine z_aload rfl rfl ?_
  refine z_getR (r := 83) rfl rfl (hRr _ rm_50_58 (by decide)) ?_
  refine z_iload rfl rfl ?_
  refine z_iald (v := (-2) - (J (38 + 2 * s.toNat) 2)) rfl rfl (by decide) (by omega) (e83) ?_
  refine z_pushI (z := (-1)) rfl rfl ?_
  refine z_icmp_eq rfl (by omega) (by decide) (fun h1 => ?_) (fun h1 => ?_)
  · refine z_pushI (z := (-11)) rfl rfl ?_
    refine z_iret rfl rfl ?_
    refine ⟨?_, ?_⟩
    · first | rfl | exact congrArg (fun v => some (zi v)) (by omega) | (exfalso; omega)
    · exact hr
  · refine z_aload rfl rfl ?_
    refine z_getR (r := 83) rfl rfl (hRr _ rm_50_58 (by decide)) ?_
    refine z_iload rfl rfl ?_
    refine z_iald (v := (-1)) rfl rfl (by decide) (by omega) (e83o) ?_
    refine z_pushI (z := (-1)) rfl rfl ?_
    refine z_icmp_neF rfl (by decide) (by decide) (by decide) ?_
    refine z_pushI (z := (-11)) rfl rfl ?_
    refine z_iret rfl rfl ?_
    refine ⟨?_, ?_⟩
    · first | rfl | exact congrArg (fun v => some (zi v)) (by omega) | (exfalso; omega)
    · exact hr
theorem st_shift_21 {X : Nat × (Nat → Int32)} {d : Nat} {J M : zA} {R : zR} {s i o j n : Int} (hr : Rel X J M R) (hs : -2147483648 ≤ s ∧ s < 2147483648) (hi : -2147483648 ≤ i ∧ i < 2147483648) (ho : -2147483648 ≤ o ∧ o < 2147483648) (hj : -2147483648 ≤ j ∧ j < 2147483648) (hn : -2147483648 ≤ n ∧ n < 2147483648) (hs6 : 0 ≤ s ∧ s < 6) (hh : J (38 + 2 * s.toNat) 0 = 2) (ho6 : 0 ≤ o ∧ o < 6) (hho : J (38 + 2 * o.toNat) 0 = 1) : zW X (d + 20) 140 0 (gEn 140 [(.ref 0), (zi s), (zi i), (zi o), (zi j), (zi n)]) [] J M R (stP X (d + 20) 254 [(zi s), (zi i), (zi o), (zi j), (zi n)]) := by
  have hr0 := hr
  obtain ⟨hR, hG, hY, hD, hP, hC, hAc, hS, hTp, hX, hW⟩ := hr0
  have hRr : zRoR R := zRoR_of hR
  have hA0 := hAc
  obtain ⟨a1, a2, a3, a4, a5, a6⟩ := hA0
  have e83 : J 83 s = -2 - J (38 + 2 * s.toNat) 2 := (hS s hs6.1 hs6.2).1.symm.trans (cH_2 hh)
  have s3 : 0 ≤ J (38 + 2 * s.toNat) 2 ∧ J (38 + 2 * s.toNat) 2 ≤ 4 := (hS s hs6.1 hs6.2).2.2.1
  have s4 : 0 ≤ J (38 + 2 * s.toNat) 3 ∧ J (38 + 2 * s.toNat) 3 ≤ 60 := (hS s hs6.1 hs6.2).2.2.2.1
  have s6 := (hS s hs6.1 hs6.2).2.2.2.2.2 hh
  have s7 : J 84 s = J (38 + 2 * s.toNat) 3 := s6.1.symm
  have s8 : ∀ i, 0 ≤ i → i < J (38 + 2 * s.toNat) 3 → M (39 + 2 * s.toNat) i = M 85 (60 * s + i) := s6.2.1
  have e83o : J 83 o = J (38 + 2 * o.toNat) 1 := (hS o ho6.1 ho6.2).1.symm.trans (cH_1 hho)
  have s3o : 0 ≤ J (38 + 2 * o.toNat) 2 ∧ J (38 + 2 * o.toNat) 2 ≤ 4 := (hS o ho6.1 ho6.2).2.2.1
  have s4o : 0 ≤ J (38 + 2 * o.toNat) 3 ∧ J (38 + 2 * o.toNat) 3 ≤ 60 := (hS o ho6.1 ho6.2).2.2.2.1
  have s5o : 0 ≤ J (38 + 2 * o.toNat) 1 ∧ J (38 + 2 * o.toNat) 1 < J 34 1 := (hS o ho6.1 ho6.2).2.2.2.2.1 hho
  show zW _ _ _ _ [some (.ref 0), some (zi s), some (zi i), some (zi o), some (zi j), some (zi n), none, none] _ _ _ _ _
  refine z_iload rfl rfl ?_
  refine z_callSi (As := [_]) (le := [some _]) rfl rfl (Nat.le_of_ble_eq_true rfl) (Nat.le_of_ble_eq_true rfl) rfl ?_
  refine z_iload rfl rfl ?_
  refine z_if_ltF rfl (by omega) (by omega) ?_
  refine z_iload rfl rfl ?_
  refine z_pushI (z := 6) rfl rfl ?_
  refine z_icmp_geF rfl (by omega) (by decide) (by omega) ?_
  refine z_pushI (z := 1) rfl rfl ?_
  refine z_goto rfl ?_
  refine z_bret rfl rfl (by decide) ?_
  show zW _ _ _ _ _ _ _ _ _ _
  refine z_if_eqF rfl (by decide) (by decide) ?_
  refine z_iload rfl rfl ?_
  refine z_callSi (As := [_]) (le := [some _]) rfl rfl (Nat.le_of_ble_eq_true rfl) (Nat.le_of_ble_eq_true rfl) rfl ?_
  refine z_iload rfl rfl ?_
  refine z_if_ltF rfl (by omega) (by omega) ?_
  refine z_iload rfl rfl ?_
  refine z_pushI (z := 6) rfl rfl ?_
  refine z_icmp_geF rfl (by omega) (by decide) (by omega) ?_
  refine z_pushI (z := 1) rfl rfl ?_
  refine z_goto rfl ?_
  refine z_bret rfl rfl (by decide) ?_
  show zW _ _ _ _ _ _ _ _ _ _
  refine z_if_neT rfl (by decide) (by decide) ?_
  refine z_aload rfl rfl ?_
  refine z_getR (r := 37) rfl rfl (hR _ rm_0_11) ?_
  refine z_iload rfl rfl ?_
  refine z_aald (r := 38 + 2 * s.toNat) rfl rfl (by decide) (by omega) (rr_shelf hR (by omega)) ?_
  refine z_astore rfl rfl ?_
  refine z_aload rfl rfl ?_
  refine z_getR (r := 37) rfl rfl (hR _ rm_0_11) ?_
  refine z_iload rfl rfl ?_
  refine z_aald (r := 38 + 2 * o.toNat) rfl rfl (by decide) (by omega) (rr_shelf hR (by omega)) ?_
  refine z_astore rfl rfl ?_
  refine z_aload rfl rfl ?_
  refine z_callVi (As := []) (le := [some _]) rfl rfl (zk_shelf (by omega)) (Nat.le_of_ble_eq_true rfl) (Nat.le_of_ble_eq_true rfl) rfl ?_
  refine z_aload rfl rfl ?_
  refine z_getI (v := 2) rfl (zk_shelf (by omega)) (hh) ?_
  refine z_if_neT rfl (by decide) (by decide) ?_
  refine z_pushI (z := 0) rfl rfl ?_
  refine z_bret rfl rfl (by decide) ?_
  show zW _ _ _ _ _ _ _ _ _ _
  refine z_if_neF rfl (by decide) (by decide) ?_
  refine z_aload rfl rfl ?_
  refine z_callVi (As := []) (le := [some _]) rfl rfl (zk_shelf (by omega)) (Nat.le_of_ble_eq_true rfl) (Nat.le_of_ble_eq_true rfl) rfl ?_
  refine z_aload rfl rfl ?_
  refine z_getI (v := 1) rfl (zk_shelf (by omega)) (hho) ?_
  refine z_if_neT rfl (by decide) (by decide) ?_
  refine z_pushI (z := 0) rfl rfl ?_
  refine z_bret rfl rfl (by decide) ?_
  show zW _ _ _ _ _ _ _ _ _ _
  refine z_if_eqT rfl (by decide) (by decide) ?_
  refine z_aload rfl rfl ?_
  refine z_aload rfl rfl ?_
  refine z_callVi (As := [_]) (le := [some _, some _]) rfl rfl (zk_shelf (by omega)) (Nat.le_of_ble_eq_true rfl) (Nat.le_of_ble_eq_true rfl) rfl ?_
  refine z_aload rfl rfl ?_
  refine z_getI (v := 2) rfl (zk_shelf (by omega)) (hh) ?_
  refine z_pushI (z := 2) rfl rfl ?_
  refine z_icmp_neF rfl (by decide) (by decide) (by decide) ?_
  refine z_aload rfl rfl ?_
  refine z_getI (v := 1) rfl (zk_shelf (by omega)) (hho) ?_
  refine z_pushI (z := 2) rfl rfl ?_
  refine z_icmp_neT rfl (by decide) (by decide) (by decide) ?_
  refine z_pushI (z := 0) rfl rfl ?_
  refine z_bret rfl rfl (by decide) ?_
  show zW _ _ _ _ _ _ _ _ _ _
  refine z_if_neF rfl (by decide) (by decide) ?_
  refine z_pushI (z := (-12)) rfl rfl ?_
  refine z_iret rfl rfl ?_
  refine ⟨_, rfl, ?_⟩
  show zW _ _ _ _ [some (.ref 50), some (zi s), some (zi i), some (zi o), some (zi j), some (zi n), none] _ _ _ _ _
  refine z_iload rfl rfl ?_
  refine z_callSi (As := [_]) (le := [some _]) rfl rfl (Nat.le_of_ble_eq_true rfl) (Nat.le_of_ble_eq_true rfl) rfl ?_
  refine z_iload rfl rfl ?_
  refine z_pushI (z := 0) rfl rfl ?_
  refine z_pushI (z := 5) rfl rfl ?_
  refine z_callSi (As := [_, _, _]) (le := [some _, some _, some _]) rfl rfl (Nat.le_of_ble_eq_true rfl) (Nat.le_of_ble_eq_true rfl) rfl ?_
  refine z_iload rfl rfl ?_
  refine z_iload rfl rfl ?_
  refine z_icmp_ltF rfl (by omega) (by decide) (by omega) ?_
  refine z_iload rfl rfl ?_
  refine z_iload rfl rfl ?_
  refine z_icmp_gtF rfl (by omega) (by decide) (by omega) ?_
  refine z_pushI (z := 1) rfl rfl ?_
  refine z_goto rfl ?_
  refine z_bret rfl rfl (by decide) ?_
  show zW _ _ _ _ _ _ _ _ _ _
  refine z_bret rfl rfl (by decide) ?_
  show zW _ _ _ _ _ _ _ _ _ _
  refine z_if_eqF rfl (by decide) (by decide) ?_
  refine z_iload rfl rfl ?_
  refine z_callSi (As := [_]) (le := [some _]) rfl rfl (Nat.le_of_ble_eq_true rfl) (Nat.le_of_ble_eq_true rfl) rfl ?_
  refine z_iload rfl rfl ?_
  refine z_pushI (z := 0) rfl rfl ?_
  refine z_pushI (z := 5) rfl rfl ?_
  refine z_callSi (As := [_, _, _]) (le := [some _, some _, some _]) rfl rfl (Nat.le_of_ble_eq_true rfl) (Nat.le_of_ble_eq_true rfl) rfl ?_
  refine z_iload rfl rfl ?_
  refine z_iload rfl rfl ?_
  refine z_icmp_ltF rfl (by omega) (by decide) (by omega) ?_
  refine z_iload rfl rfl ?_
  refine z_iload rfl rfl ?_
  refine z_icmp_gtF rfl (by omega) (by decide) (by omega) ?_
  refine z_pushI (z := 1) rfl rfl ?_
  refine z_goto rfl ?_
  refine z_bret rfl rfl (by decide) ?_
  show zW _ _ _ _ _ _ _ _ _ _
  refine z_bret rfl rfl (by decide) ?_
  show zW _ _ _ _ _ _ _ _ _ _
  refine z_if_neT rfl (by decide) (by decide) ?_
  refine z_aload rfl rfl ?_
  refine z_getR (r := 83) rfl rfl (hRr _ rm_50_58 (by decide)) ?_
  refine z_iload rfl rfl ?_
  refine z_iald (v := (-2) - (J (38 + 2 * s.toNat) 2)) rfl rfl (by decide) (by omega) (e83) ?_
  refine z_pushI (z := (-1)) rfl rfl ?_
  refine z_icmp_eq rfl (by omega) (by decide) (fun h1 => ?_) (fun h1 => ?_)
  · refine z_pushI (z := (-11)) rfl rfl ?_
    refine z_iret rfl rfl ?_
    refine ⟨?_, ?_⟩
    · first | rfl | exact congrArg (fun v => some (zi v)) (by omega) | (exfalso; omega)
    · exact hr
  · refine z_aload rfl rfl ?_
    refine z_getR (r := 83) rfl rfl (hRr _ rm_50_58 (by decide)) ?_
    refine z_iload rfl rfl ?_
    refine z_iald (v := J (38 + 2 * o.toNat) 1) rfl rfl (by decide) (by omega) (e83o) ?_
    refine z_pushI (z := (-1)) rfl rfl ?_
    refine z_icmp_ne rfl (by omega) (by decide) (fun h2 => ?_) (fun h2 => ?_)
    · refine z_aload rfl rfl ?_
      refine z_getR (r := 83) rfl rfl (hRr _ rm_50_58 (by decide)) ?_
      refine z_iload rfl rfl ?_
      refine z_iald (v := (-2) - (J (38 + 2 * s.toNat) 2)) rfl rfl (by decide) (by omega) (e83) ?_
      refine z_if_ge rfl (by omega) (fun h3 => ?_) (fun h3 => ?_)
      · refine z_pushI (z := (-12)) rfl rfl ?_
        refine z_iret rfl rfl ?_
        refine ⟨?_, ?_⟩
        · first | rfl | exact congrArg (fun v => some (zi v)) (by omega) | (exfalso; omega)
        · exact hr
      · refine z_aload rfl rfl ?_
        refine z_getR (r := 83) rfl rfl (hRr _ rm_50_58 (by decide)) ?_
        refine z_iload rfl rfl ?_
        refine z_iald (v := (-2) - (J (38 + 2 * s.toNat) 2)) rfl rfl (by decide) (by omega) (e83) ?_
        refine z_aload rfl rfl ?_
        refine z_getR (r := 83) rfl rfl (hRr _ rm_50_58 (by decide)) ?_
        refine z_iload rfl rfl ?_
        refine z_iald (v := J (38 + 2 * o.toNat) 1) rfl rfl (by decide) (by omega) (e83o) ?_
        refine z_icmp_eq rfl (by omega) (by omega) (fun h4 => ?_) (fun h4 => ?_)
        · refine z_iload rfl rfl ?_
          refine z_if_lt rfl (by omega) (fun h5 => ?_) (fun h5 => ?_)
          · refine z_pushI (z := (-13)) rfl rfl ?_
            refine z_iret rfl rfl ?_
            refine ⟨?_, ?_⟩
            · first | rfl | exact congrArg (fun v => some (zi v)) (by omega) | (exfalso; omega)
            · exact hr
          · refine z_iload rfl rfl ?_
            refine z_if_lt rfl (by omega) (fun h6 => ?_) (fun h6 => ?_)
            · refine z_pushI (z := (-13)) rfl rfl ?_
              refine z_iret rfl rfl ?_
              refine ⟨?_, ?_⟩
              · first | rfl | exact congrArg (fun v => some (zi v)) (by omega) | (exfalso; omega)
              · exact hr
            · refine z_iload rfl rfl ?_
              refine z_if_lt rfl (by omega) (fun h7 => ?_) (fun h7 => ?_)
              · refine z_pushI (z := (-13)) rfl rfl ?_
                refine z_iret rfl rfl ?_
                refine ⟨?_, ?_⟩
                · first | rfl | exact congrArg (fun v => some (zi v)) (by omega) | (exfalso; omega)
                · exact hr
              · refine z_iload rfl rfl ?_
                refine z_aload rfl rfl ?_
                refine z_getR (r := 84) rfl rfl (hRr _ rm_50_59 (by decide)) ?_
                refine z_iload rfl rfl ?_
                refine z_iald (v := J (38 + 2 * s.toNat) 3) rfl rfl (by decide) (by omega) (s7) ?_
                refine z_iload rfl rfl ?_
                refine z_isub (e := (J (38 + 2 * s.toNat) 3) - n) rfl rfl ?_
                refine z_icmp_gt rfl (by omega) (by omega) (fun h8 => ?_) (fun h8 => ?_)
                · refine z_pushI (z := (-13)) rfl rfl ?_
                  refine z_iret rfl rfl ?_
                  refine ⟨?_, ?_⟩
                  · first | rfl | exact congrArg (fun v => some (zi v)) (by omega) | (exfalso; omega)
                  · exact hr
                · refine z_iload rfl rfl ?_
                  refine z_aload rfl rfl ?_
                  refine z_getR (r := 84) rfl rfl (hRr _ rm_50_59 (by decide)) ?_
                  refine z_iload rfl rfl ?_
                  refine z_iald (v := J 84 o) rfl rfl (by decide) (by omega) (rfl) ?_
                  refine z_iload rfl rfl ?_
                  refine z_isub (e := (J 84 o) - n) rfl rfl ?_
                  refine z_icmp_le rfl (by omega) (by omega) (fun h9 => ?_) (fun h9 => ?_)
                  · refine z_pushI (z := 0) rfl rfl ?_
                    refine z_istore rfl rfl ?_
                    show zW _ _ _ _ [some (.ref 50), some (zi s), some (zi i), some (zi o), some (zi j), some (zi n), some (zi 0)] [] _ _ _ _
                    refine shift1_k hRr (by omega) (by omega) ?_
                    refine z_pushI (z := 0) rfl rfl ?_
                    refine z_istore rfl rfl ?_
                    show zW _ _ _ _ [some (.ref 50), some (zi s), some (zi i), some (zi o), some (zi j), some (zi n), some (zi 0)] [] _ _ _ _
                    refine shift2_k hRr (by omega) (by omega) ?_
                    refine z_iload rfl rfl ?_
                    refine z_iret rfl rfl ?_
                    refine ⟨?_, ?_⟩
                    · exfalso
                      omega
                    · exfalso
                      omega
                  · refine z_pushI (z := (-13)) rfl rfl ?_
                    refine z_iret rfl rfl ?_
                    refine ⟨?_, ?_⟩
                    · first | rfl | exact congrArg (fun v => some (zi v)) (by omega) | (exfalso; omega)
                    · exact hr
        · refine z_pushI (z := (-12)) rfl rfl ?_
          refine z_iret rfl rfl ?_
          refine ⟨?_, ?_⟩
          · first | rfl | exact congrArg (fun v => some (zi v)) (by omega) | (exfalso; omega)
          · exact hr
    · refine z_pushI (z := (-11)) rfl rfl ?_
      refine z_iret rfl rfl ?_
      refine ⟨?_, ?_⟩
      · first | rfl | exact congrArg (fun v => some (zi v)) (by omega) | (exfalso; omega)
      · exact hr
theorem st_shift_22 {X : Nat × (Nat → Int32)} {d : Nat} {J M : zA} {R : zR} {s i o j n : Int} (hr : Rel X J M R) (hs : -2147483648 ≤ s ∧ s < 2147483648) (hi : -2147483648 ≤ i ∧ i < 2147483648) (ho : -2147483648 ≤ o ∧ o < 2147483648) (hj : -2147483648 ≤ j ∧ j < 2147483648) (hn : -2147483648 ≤ n ∧ n < 2147483648) (hs6 : 0 ≤ s ∧ s < 6) (hh : J (38 + 2 * s.toNat) 0 = 2) (ho6 : 0 ≤ o ∧ o < 6) (hho : J (38 + 2 * o.toNat) 0 = 2) : zW X (d + 20) 140 0 (gEn 140 [(.ref 0), (zi s), (zi i), (zi o), (zi j), (zi n)]) [] J M R (stP X (d + 20) 254 [(zi s), (zi i), (zi o), (zi j), (zi n)]) := by
  have hr0 := hr
  obtain ⟨hR, hG, hY, hD, hP, hC, hAc, hS, hTp, hX, hW⟩ := hr0
  have hRr : zRoR R := zRoR_of hR
  have hA0 := hAc
  obtain ⟨a1, a2, a3, a4, a5, a6⟩ := hA0
  have e83 : J 83 s = -2 - J (38 + 2 * s.toNat) 2 := (hS s hs6.1 hs6.2).1.symm.trans (cH_2 hh)
  have s3 : 0 ≤ J (38 + 2 * s.toNat) 2 ∧ J (38 + 2 * s.toNat) 2 ≤ 4 := (hS s hs6.1 hs6.2).2.2.1
  have s4 : 0 ≤ J (38 + 2 * s.toNat) 3 ∧ J (38 + 2 * s.toNat) 3 ≤ 60 := (hS s hs6.1 hs6.2).2.2.2.1
  have s6 := (hS s hs6.1 hs6.2).2.2.2.2.2 hh
  have s7 : J 84 s = J (38 + 2 * s.toNat) 3 := s6.1.symm
  have s8 : ∀ i, 0 ≤ i → i < J (38 + 2 * s.toNat) 3 → M (39 + 2 * s.toNat) i = M 85 (60 * s + i) := s6.2.1
  have e83o : J 83 o = -2 - J (38 + 2 * o.toNat) 2 := (hS o ho6.1 ho6.2).1.symm.trans (cH_2 hho)
  have s3o : 0 ≤ J (38 + 2 * o.toNat) 2 ∧ J (38 + 2 * o.toNat) 2 ≤ 4 := (hS o ho6.1 ho6.2).2.2.1
  have s4o : 0 ≤ J (38 + 2 * o.toNat) 3 ∧ J (38 + 2 * o.toNat) 3 ≤ 60 := (hS o ho6.1 ho6.2).2.2.2.1
  have s6o := (hS o ho6.1 ho6.2).2.2.2.2.2 hho
  have s7o : J 84 o = J (38 + 2 * o.toNat) 3 := s6o.1.symm
  have s8o : ∀ i, 0 ≤ i → i < J (38 + 2 * o.toNat) 3 → M (39 + 2 * o.toNat) i = M 85 (60 * o + i) := s6o.2.1
  show zW _ _ _ _ [some (.ref 0), some (zi s), some (zi i), some (zi o), some (zi j), some (zi n), none, none] _ _ _ _ _
  refine z_iload rfl rfl ?_
  refine z_callSi (As := [_]) (le := [some _]) rfl rfl (Nat.le_of_ble_eq_true rfl) (Nat.le_of_ble_eq_true rfl) rfl ?_
  refine z_iload rfl rfl ?_
  refine z_if_ltF rfl (by omega) (by omega) ?_
  refine z_iload rfl rfl ?_
  refine z_pushI (z := 6) rfl rfl ?_
  refine z_icmp_geF rfl (by omega) (by decide) (by omega) ?_
  refine z_pushI (z := 1) rfl rfl ?_
  refine z_goto rfl ?_
  refine z_bret rfl rfl (by decide) ?_
  show zW _ _ _ _ _ _ _ _ _ _
  refine z_if_eqF rfl (by decide) (by decide) ?_
  refine z_iload rfl rfl ?_
  refine z_callSi (As := [_]) (le := [some _]) rfl rfl (Nat.le_of_ble_eq_true rfl) (Nat.le_of_ble_eq_true rfl) rfl ?_
  refine z_iload rfl rfl ?_
  refine z_if_ltF rfl (by omega) (by omega) ?_
  refine z_iload rfl rfl ?_
  refine z_pushI (z := 6) rfl rfl ?_
  refine z_icmp_geF rfl (by omega) (by decide) (by omega) ?_
  refine z_pushI (z := 1) rfl rfl ?_
  refine z_goto rfl ?_
  refine z_bret rfl rfl (by decide) ?_
  show zW _ _ _ _ _ _ _ _ _ _
  refine z_if_neT rfl (by decide) (by decide) ?_
  refine z_aload rfl rfl ?_
  refine z_getR (r := 37) rfl rfl (hR _ rm_0_11) ?_
  refine z_iload rfl rfl ?_
  refine z_aald (r := 38 + 2 * s.toNat) rfl rfl (by decide) (by omega) (rr_shelf hR (by omega)) ?_
  refine z_astore rfl rfl ?_
  refine z_aload rfl rfl ?_
  refine z_getR (r := 37) rfl rfl (hR _ rm_0_11) ?_
  refine z_iload rfl rfl ?_
  refine z_aald (r := 38 + 2 * o.toNat) rfl rfl (by decide) (by omega) (rr_shelf hR (by omega)) ?_
  refine z_astore rfl rfl ?_
  refine z_aload rfl rfl ?_
  refine z_callVi (As := []) (le := [some _]) rfl rfl (zk_shelf (by omega)) (Nat.le_of_ble_eq_true rfl) (Nat.le_of_ble_eq_true rfl) rfl ?_
  refine z_aload rfl rfl ?_
  refine z_getI (v := 2) rfl (zk_shelf (by omega)) (hh) ?_
  refine z_if_neT rfl (by decide) (by decide) ?_
  refine z_pushI (z := 0) rfl rfl ?_
  refine z_bret rfl rfl (by decide) ?_
  show zW _ _ _ _ _ _ _ _ _ _
  refine z_if_neF rfl (by decide) (by decide) ?_
  refine z_aload rfl rfl ?_
  refine z_callVi (As := []) (le := [some _]) rfl rfl (zk_shelf (by omega)) (Nat.le_of_ble_eq_true rfl) (Nat.le_of_ble_eq_true rfl) rfl ?_
  refine z_aload rfl rfl ?_
  refine z_getI (v := 2) rfl (zk_shelf (by omega)) (hho) ?_
  refine z_if_neT rfl (by decide) (by decide) ?_
  refine z_pushI (z := 0) rfl rfl ?_
  refine z_bret rfl rfl (by decide) ?_
  show zW _ _ _ _ _ _ _ _ _ _
  refine z_if_eqT rfl (by decide) (by decide) ?_
  refine z_aload rfl rfl ?_
  refine z_aload rfl rfl ?_
  refine z_callVi (As := [_]) (le := [some _, some _]) rfl rfl (zk_shelf (by omega)) (Nat.le_of_ble_eq_true rfl) (Nat.le_of_ble_eq_true rfl) rfl ?_
  refine z_aload rfl rfl ?_
  refine z_getI (v := 2) rfl (zk_shelf (by omega)) (hh) ?_
  refine z_pushI (z := 2) rfl rfl ?_
  refine z_icmp_neF rfl (by decide) (by decide) (by decide) ?_
  refine z_aload rfl rfl ?_
  refine z_getI (v := 2) rfl (zk_shelf (by omega)) (hho) ?_
  refine z_pushI (z := 2) rfl rfl ?_
  refine z_icmp_neF rfl (by decide) (by decide) (by decide) ?_
  refine z_aload rfl rfl ?_
  refine z_getI (v := J (38 + 2 * s.toNat) 2) rfl (zk_shelf (by omega)) (rfl) ?_
  refine z_aload rfl rfl ?_
  refine z_getI (v := J (38 + 2 * o.toNat) 2) rfl (zk_shelf (by omega)) (rfl) ?_
  refine z_icmp_ne rfl (by omega) (by omega) (fun h1 => ?_) (fun h1 => ?_)
  · refine z_pushI (z := 0) rfl rfl ?_
    refine z_bret rfl rfl (by decide) ?_
    show zW _ _ _ _ _ _ _ _ _ _
    refine z_if_neF rfl (by decide) (by decide) ?_
    refine z_pushI (z := (-12)) rfl rfl ?_
    refine z_iret rfl rfl ?_
    refine ⟨_, rfl, ?_⟩
    show zW _ _ _ _ [some (.ref 50), some (zi s), some (zi i), some (zi o), some (zi j), some (zi n), none] _ _ _ _ _
    refine z_iload rfl rfl ?_
    refine z_callSi (As := [_]) (le := [some _]) rfl rfl (Nat.le_of_ble_eq_true rfl) (Nat.le_of_ble_eq_true rfl) rfl ?_
    refine z_iload rfl rfl ?_
    refine z_pushI (z := 0) rfl rfl ?_
    refine z_pushI (z := 5) rfl rfl ?_
    refine z_callSi (As := [_, _, _]) (le := [some _, some _, some _]) rfl rfl (Nat.le_of_ble_eq_true rfl) (Nat.le_of_ble_eq_true rfl) rfl ?_
    refine z_iload rfl rfl ?_
    refine z_iload rfl rfl ?_
    refine z_icmp_ltF rfl (by omega) (by decide) (by omega) ?_
    refine z_iload rfl rfl ?_
    refine z_iload rfl rfl ?_
    refine z_icmp_gtF rfl (by omega) (by decide) (by omega) ?_
    refine z_pushI (z := 1) rfl rfl ?_
    refine z_goto rfl ?_
    refine z_bret rfl rfl (by decide) ?_
    show zW _ _ _ _ _ _ _ _ _ _
    refine z_bret rfl rfl (by decide) ?_
    show zW _ _ _ _ _ _ _ _ _ _
    refine z_if_eqF rfl (by decide) (by decide) ?_
    refine z_iload rfl rfl ?_
    refine z_callSi (As := [_]) (le := [some _]) rfl rfl (Nat.le_of_ble_eq_true rfl) (Nat.le_of_ble_eq_true rfl) rfl ?_
    refine z_iload rfl rfl ?_
    refine z_pushI (z := 0) rfl rfl ?_
    refine z_pushI (z := 5) rfl rfl ?_
    refine z_callSi (As := [_, _, _]) (le := [some _, some _, some _]) rfl rfl (Nat.le_of_ble_eq_true rfl) (Nat.le_of_ble_eq_true rfl) rfl ?_
    refine z_iload rfl rfl ?_
    refine z_iload rfl rfl ?_
    refine z_icmp_ltF rfl (by omega) (by decide) (by omega) ?_
    refine z_iload rfl rfl ?_
    refine z_iload rfl rfl ?_
    refine z_icmp_gtF rfl (by omega) (by decide) (by omega) ?_
    refine z_pushI (z := 1) rfl rfl ?_
    refine z_goto rfl ?_
    refine z_bret rfl rfl (by decide) ?_
    show zW _ _ _ _ _ _ _ _ _ _
    refine z_bret rfl rfl (by decide) ?_
    show zW _ _ _ _ _ _ _ _ _ _
    refine z_if_neT rfl (by decide) (by decide) ?_
    refine z_aload rfl rfl ?_
    refine z_getR (r := 83) rfl rfl (hRr _ rm_50_58 (by decide)) ?_
    refine z_iload rfl rfl ?_
    refine z_iald (v := (-2) - (J (38 + 2 * s.toNat) 2)) rfl rfl (by decide) (by omega) (e83) ?_
    refine z_pushI (z := (-1)) rfl rfl ?_
    refine z_icmp_eq rfl (by omega) (by decide) (fun h2 => ?_) (fun h2 => ?_)
    · refine z_pushI (z := (-11)) rfl rfl ?_
      refine z_iret rfl rfl ?_
      refine ⟨?_, ?_⟩
      · first | rfl | exact congrArg (fun v => some (zi v)) (by omega) | (exfalso; omega)
      · exact hr
    · refine z_aload rfl rfl ?_
      refine z_getR (r := 83) rfl rfl (hRr _ rm_50_58 (by decide)) ?_
      refine z_iload rfl rfl ?_
      refine z_iald (v := (-2) - (J (38 + 2 * o.toNat) 2)) rfl rfl (by decide) (by omega) (e83o) ?_
      refine z_pushI (z := (-1)) rfl rfl ?_
      refine z_icmp_ne rfl (by omega) (by decide) (fun h3 => ?_) (fun h3 => ?_)
      · refine z_aload rfl rfl ?_
        refine z_getR (r := 83) rfl rfl (hRr _ rm_50_58 (by decide)) ?_
        refine z_iload rfl rfl ?_
        refine z_iald (v := (-2) - (J (38 + 2 * s.toNat) 2)) rfl rfl (by decide) (by omega) (e83) ?_
        refine z_if_ge rfl (by omega) (fun h4 => ?_) (fun h4 => ?_)
        · refine z_pushI (z := (-12)) rfl rfl ?_
          refine z_iret rfl rfl ?_
          refine ⟨?_, ?_⟩
          · first | rfl | exact congrArg (fun v => some (zi v)) (by omega) | (exfalso; omega)
          · exact hr
        · refine z_aload rfl rfl ?_
          refine z_getR (r := 83) rfl rfl (hRr _ rm_50_58 (by decide)) ?_
          refine z_iload rfl rfl ?_
          refine z_iald (v := (-2) - (J (38 + 2 * s.toNat) 2)) rfl rfl (by decide) (by omega) (e83) ?_
          refine z_aload rfl rfl ?_
          refine z_getR (r := 83) rfl rfl (hRr _ rm_50_58 (by decide)) ?_
          refine z_iload rfl rfl ?_
          refine z_iald (v := (-2) - (J (38 + 2 * o.toNat) 2)) rfl rfl (by decide) (by omega) (e83o) ?_
          refine z_icmp_eq rfl (by omega) (by omega) (fun h5 => ?_) (fun h5 => ?_)
          · refine z_iload rfl rfl ?_
            refine z_if_lt rfl (by omega) (fun h6 => ?_) (fun h6 => ?_)
            · refine z_pushI (z := (-13)) rfl rfl ?_
              refine z_iret rfl rfl ?_
              refine ⟨?_, ?_⟩
              · first | rfl | exact congrArg (fun v => some (zi v)) (by omega) | (exfalso; omega)
              · exact hr
            · refine z_iload rfl rfl ?_
              refine z_if_lt rfl (by omega) (fun h7 => ?_) (fun h7 => ?_)
              · refine z_pushI (z := (-13)) rfl rfl ?_
                refine z_iret rfl rfl ?_
                refine ⟨?_, ?_⟩
                · first | rfl | exact congrArg (fun v => some (zi v)) (by omega) | (exfalso; omega)
                · exact hr
              · refine z_iload rfl rfl ?_
                refine z_if_lt rfl (by omega) (fun h8 => ?_) (fun h8 => ?_)
                · refine z_pushI (z := (-13)) rfl rfl ?_
                  refine z_iret rfl rfl ?_
                  refine ⟨?_, ?_⟩
                  · first | rfl | exact congrArg (fun v => some (zi v)) (by omega) | (exfalso; omega)
                  · exact hr
                · refine z_iload rfl rfl ?_
                  refine z_aload rfl rfl ?_
                  refine z_getR (r := 84) rfl rfl (hRr _ rm_50_59 (by decide)) ?_
                  refine z_iload rfl rfl ?_
                  refine z_iald (v := J (38 + 2 * s.toNat) 3) rfl rfl (by decide) (by omega) (s7) ?_
                  refine z_iload rfl rfl ?_
                  refine z_isub (e := (J (38 + 2 * s.toNat) 3) - n) rfl rfl ?_
                  refine z_icmp_gt rfl (by omega) (by omega) (fun h9 => ?_) (fun h9 => ?_)
                  · refine z_pushI (z := (-13)) rfl rfl ?_
                    refine z_iret rfl rfl ?_
                    refine ⟨?_, ?_⟩
                    · first | rfl | exact congrArg (fun v => some (zi v)) (by omega) | (exfalso; omega)
                    · exact hr
                  · refine z_iload rfl rfl ?_
                    refine z_aload rfl rfl ?_
                    refine z_getR (r := 84) rfl rfl (hRr _ rm_50_59 (by decide)) ?_
                    refine z_iload rfl rfl ?_
                    refine z_iald (v := J (38 + 2 * o.toNat) 3) rfl rfl (by decide) (by omega) (s7o) ?_
                    refine z_iload rfl rfl ?_
                    refine z_isub (e := (J (38 + 2 * o.toNat) 3) - n) rfl rfl ?_
                    refine z_icmp_le rfl (by omega) (by omega) (fun h10 => ?_) (fun h10 => ?_)
                    · refine z_pushI (z := 0) rfl rfl ?_
                      refine z_istore rfl rfl ?_
                      show zW _ _ _ _ [some (.ref 50), some (zi s), some (zi i), some (zi o), some (zi j), some (zi n), some (zi 0)] [] _ _ _ _
                      refine shift1_k hRr (by omega) (by omega) ?_
                      refine z_pushI (z := 0) rfl rfl ?_
                      refine z_istore rfl rfl ?_
                      show zW _ _ _ _ [some (.ref 50), some (zi s), some (zi i), some (zi o), some (zi j), some (zi n), some (zi 0)] [] _ _ _ _
                      refine shift2_k hRr (by omega) (by omega) ?_
                      refine z_iload rfl rfl ?_
                      refine z_iret rfl rfl ?_
                      refine ⟨?_, ?_⟩
                      · exfalso
                        omega
                      · exfalso
                        omega
                    · refine z_pushI (z := (-13)) rfl rfl ?_
                      refine z_iret rfl rfl ?_
                      refine ⟨?_, ?_⟩
                      · first | rfl | exact congrArg (fun v => some (zi v)) (by omega) | (exfalso; omega)
                      · exact hr
          · refine z_pushI (z := (-12)) rfl rfl ?_
            refine z_iret rfl rfl ?_
            refine ⟨?_, ?_⟩
            · first | rfl | exact congrArg (fun v => some (zi v)) (by omega) | (exfalso; omega)
            · exact hr
      · refine z_pushI (z := (-11)) rfl rfl ?_
        refine z_iret rfl rfl ?_
        refine ⟨?_, ?_⟩
        · first | rfl | exact congrArg (fun v => some (zi v)) (by omega) | (exfalso; omega)
        · exact hr
  · refine z_pushI (z := 1) rfl rfl ?_
    refine z_goto rfl ?_
    refine z_bret rfl rfl (by decide) ?_
    show zW _ _ _ _ _ _ _ _ _ _
    refine z_if_neT rfl (by decide) (by decide) ?_
    refine z_iload rfl rfl ?_
    refine z_if_lt rfl (by omega) (fun h2 => ?_) (fun h2 => ?_)
    · refine z_pushI (z := (-13)) rfl rfl ?_
      refine z_iret rfl rfl ?_
      refine ⟨_, rfl, ?_⟩
      show zW _ _ _ _ [some (.ref 50), some (zi s), some (zi i), some (zi o), some (zi j), some (zi n), none] _ _ _ _ _
      refine z_iload rfl rfl ?_
      refine z_callSi (As := [_]) (le := [some _]) rfl rfl (Nat.le_of_ble_eq_true rfl) (Nat.le_of_ble_eq_true rfl) rfl ?_
      refine z_iload rfl rfl ?_
      refine z_pushI (z := 0) rfl rfl ?_
      refine z_pushI (z := 5) rfl rfl ?_
      refine z_callSi (As := [_, _, _]) (le := [some _, some _, some _]) rfl rfl (Nat.le_of_ble_eq_true rfl) (Nat.le_of_ble_eq_true rfl) rfl ?_
      refine z_iload rfl rfl ?_
      refine z_iload rfl rfl ?_
      refine z_icmp_ltF rfl (by omega) (by decide) (by omega) ?_
      refine z_iload rfl rfl ?_
      refine z_iload rfl rfl ?_
      refine z_icmp_gtF rfl (by omega) (by decide) (by omega) ?_
      refine z_pushI (z := 1) rfl rfl ?_
      refine z_goto rfl ?_
      refine z_bret rfl rfl (by decide) ?_
      show zW _ _ _ _ _ _ _ _ _ _
      refine z_bret rfl rfl (by decide) ?_
      show zW _ _ _ _ _ _ _ _ _ _
      refine z_if_eqF rfl (by decide) (by decide) ?_
      refine z_iload rfl rfl ?_
      refine z_callSi (As := [_]) (le := [some _]) rfl rfl (Nat.le_of_ble_eq_true rfl) (Nat.le_of_ble_eq_true rfl) rfl ?_
      refine z_iload rfl rfl ?_
      refine z_pushI (z := 0) rfl rfl ?_
      refine z_pushI (z := 5) rfl rfl ?_
      refine z_callSi (As := [_, _, _]) (le := [some _, some _, some _]) rfl rfl (Nat.le_of_ble_eq_true rfl) (Nat.le_of_ble_eq_true rfl) rfl ?_
      refine z_iload rfl rfl ?_
      refine z_iload rfl rfl ?_
      refine z_icmp_ltF rfl (by omega) (by decide) (by omega) ?_
      refine z_iload rfl rfl ?_
      refine z_iload rfl rfl ?_
      refine z_icmp_gtF rfl (by omega) (by decide) (by omega) ?_
      refine z_pushI (z := 1) rfl rfl ?_
      refine z_goto rfl ?_
      refine z_bret rfl rfl (by decide) ?_
      show zW _ _ _ _ _ _ _ _ _ _
      refine z_bret rfl rfl (by decide) ?_
      show zW _ _ _ _ _ _ _ _ _ _
      refine z_if_neT rfl (by decide) (by decide) ?_
      refine z_aload rfl rfl ?_
      refine z_getR (r := 83) rfl rfl (hRr _ rm_50_58 (by decide)) ?_
      refine z_iload rfl rfl ?_
      refine z_iald (v := (-2) - (J (38 + 2 * s.toNat) 2)) rfl rfl (by decide) (by omega) (e83) ?_
      refine z_pushI (z := (-1)) rfl rfl ?_
      refine z_icmp_eq rfl (by omega) (by decide) (fun h3 => ?_) (fun h3 => ?_)
      · refine z_pushI (z := (-11)) rfl rfl ?_
        refine z_iret rfl rfl ?_
        refine ⟨?_, ?_⟩
        · first | rfl | exact congrArg (fun v => some (zi v)) (by omega) | (exfalso; omega)
        · exact hr
      · refine z_aload rfl rfl ?_
        refine z_getR (r := 83) rfl rfl (hRr _ rm_50_58 (by decide)) ?_
        refine z_iload rfl rfl ?_
        refine z_iald (v := (-2) - (J (38 + 2 * o.toNat) 2)) rfl rfl (by decide) (by omega) (e83o) ?_
        refine z_pushI (z := (-1)) rfl rfl ?_
        refine z_icmp_ne rfl (by omega) (by decide) (fun h4 => ?_) (fun h4 => ?_)
        · refine z_aload rfl rfl ?_
          refine z_getR (r := 83) rfl rfl (hRr _ rm_50_58 (by decide)) ?_
          refine z_iload rfl rfl ?_
          refine z_iald (v := (-2) - (J (38 + 2 * s.toNat) 2)) rfl rfl (by decide) (by omega) (e83) ?_
          refine z_if_ge rfl (by omega) (fun h5 => ?_) (fun h5 => ?_)
          · refine z_pushI (z := (-12)) rfl rfl ?_
            refine z_iret rfl rfl ?_
            refine ⟨?_, ?_⟩
            · first | rfl | exact congrArg (fun v => some (zi v)) (by omega) | (exfalso; omega)
            · exact hr
          · refine z_aload rfl rfl ?_
            refine z_getR (r := 83) rfl rfl (hRr _ rm_50_58 (by decide)) ?_
            refine z_iload rfl rfl ?_
            refine z_iald (v := (-2) - (J (38 + 2 * s.toNat) 2)) rfl rfl (by decide) (by omega) (e83) ?_
            refine z_aload rfl rfl ?_
            refine z_getR (r := 83) rfl rfl (hRr _ rm_50_58 (by decide)) ?_
            refine z_iload rfl rfl ?_
            refine z_iald (v := (-2) - (J (38 + 2 * o.toNat) 2)) rfl rfl (by decide) (by omega) (e83o) ?_
            refine z_icmp_eqT rfl (by omega) (by omega) (by omega) ?_
            refine z_iload rfl rfl ?_
            refine z_if_ltT rfl (by omega) (by omega) ?_
            refine z_pushI (z := (-13)) rfl rfl ?_
            refine z_iret rfl rfl ?_
            refine ⟨?_, ?_⟩
            · first | rfl | exact congrArg (fun v => some (zi v)) (by omega) | (exfalso; omega)
            · exact hr
        · refine z_pushI (z := (-11)) rfl rfl ?_
          refine z_iret rfl rfl ?_
          refine ⟨?_, ?_⟩
          · first | rfl | exact congrArg (fun v => some (zi v)) (by omega) | (exfalso; omega)
          · exact hr
    · refine z_aload rfl rfl ?_
      refine z_iload rfl rfl ?_
      refine z_iload rfl rfl ?_
      refine z_callVi (As := [_, _]) (le := [some _, some _, some _]) rfl rfl (zk_shelf (by omega)) (Nat.le_of_ble_eq_true rfl) (Nat.le_of_ble_eq_true rfl) rfl ?_
      refine z_iload rfl rfl ?_
      refine z_if_lt rfl (by omega) (fun h3 => ?_) (fun h3 => ?_)
      · refine z_pushI (z := 0) rfl rfl ?_
        refine z_bret rfl rfl (by decide) ?_
        show zW _ _ _ _ _ _ _ _ _ _
        refine z_if_eqT rfl (by decide) (by decide) ?_
        refine z_pushI (z := (-13)) rfl rfl ?_
        refine z_iret rfl rfl ?_
        refine ⟨_, rfl, ?_⟩
        show zW _ _ _ _ [some (.ref 50), some (zi s), some (zi i), some (zi o), some (zi j), some (zi n), none] _ _ _ _ _
        refine z_iload rfl rfl ?_
        refine z_callSi (As := [_]) (le := [some _]) rfl rfl (Nat.le_of_ble_eq_true rfl) (Nat.le_of_ble_eq_true rfl) rfl ?_
        refine z_iload rfl rfl ?_
        refine z_pushI (z := 0) rfl rfl ?_
        refine z_pushI (z := 5) rfl rfl ?_
        refine z_callSi (As := [_, _, _]) (le := [some _, some _, some _]) rfl rfl (Nat.le_of_ble_eq_true rfl) (Nat.le_of_ble_eq_true rfl) rfl ?_
        refine z_iload rfl rfl ?_
        refine z_iload rfl rfl ?_
        refine z_icmp_ltF rfl (by omega) (by decide) (by omega) ?_
        refine z_iload rfl rfl ?_
        refine z_iload rfl rfl ?_
        refine z_icmp_gtF rfl (by omega) (by decide) (by omega) ?_
        refine z_pushI (z := 1) rfl rfl ?_
        refine z_goto rfl ?_
        refine z_bret rfl rfl (by decide) ?_
        show zW _ _ _ _ _ _ _ _ _ _
        refine z_bret rfl rfl (by decide) ?_
        show zW _ _ _ _ _ _ _ _ _ _
        refine z_if_eqF rfl (by decide) (by decide) ?_
        refine z_iload rfl rfl ?_
        refine z_callSi (As := [_]) (le := [some _]) rfl rfl (Nat.le_of_ble_eq_true rfl) (Nat.le_of_ble_eq_true rfl) rfl ?_
        refine z_iload rfl rfl ?_
        refine z_pushI (z := 0) rfl rfl ?_
        refine z_pushI (z := 5) rfl rfl ?_
        refine z_callSi (As := [_, _, _]) (le := [some _, some _, some _]) rfl rfl (Nat.le_of_ble_eq_true rfl) (Nat.le_of_ble_eq_true rfl) rfl ?_
        refine z_iload rfl rfl ?_
        refine z_iload rfl rfl ?_
        refine z_icmp_ltF rfl (by omega) (by decide) (by omega) ?_
        refine z_iload rfl rfl ?_
        refine z_iload rfl rfl ?_
        refine z_icmp_gtF rfl (by omega) (by decide) (by omega) ?_
        refine z_pushI (z := 1) rfl rfl ?_
        refine z_goto rfl ?_
        refine z_bret rfl rfl (by decide) ?_
        show zW _ _ _ _ _ _ _ _ _ _
        refine z_bret rfl rfl (by decide) ?_
        show zW _ _ _ _ _ _ _ _ _ _
        refine z_if_neT rfl (by decide) (by decide) ?_
        refine z_aload rfl rfl ?_
        refine z_getR (r := 83) rfl rfl (hRr _ rm_50_58 (by decide)) ?_
        refine z_iload rfl rfl ?_
        refine z_iald (v := (-2) - (J (38 + 2 * s.toNat) 2)) rfl rfl (by decide) (by omega) (e83) ?_
        refine z_pushI (z := (-1)) rfl rfl ?_
        refine z_icmp_eq rfl (by omega) (by decide) (fun h4 => ?_) (fun h4 => ?_)
        · refine z_pushI (z := (-11)) rfl rfl ?_
          refine z_iret rfl rfl ?_
          refine ⟨?_, ?_⟩
          · first | rfl | exact congrArg (fun v => some (zi v)) (by omega) | (exfalso; omega)
          · exact hr
        · refine z_aload rfl rfl ?_
          refine z_getR (r := 83) rfl rfl (hRr _ rm_50_58 (by decide)) ?_
          refine z_iload rfl rfl ?_
          refine z_iald (v := (-2) - (J (38 + 2 * o.toNat) 2)) rfl rfl (by decide) (by omega) (e83o) ?_
          refine z_pushI (z := (-1)) rfl rfl ?_
          refine z_icmp_ne rfl (by omega) (by decide) (fun h5 => ?_) (fun h5 => ?_)
          · refine z_aload rfl rfl ?_
            refine z_getR (r := 83) rfl rfl (hRr _ rm_50_58 (by decide)) ?_
            refine z_iload rfl rfl ?_
            refine z_iald (v := (-2) - (J (38 + 2 * s.toNat) 2)) rfl rfl (by decide) (by omega) (e83) ?_
            refine z_if_ge rfl (by omega) (fun h6 => ?_) (fun h6 => ?_)
            · refine z_pushI (z := (-12)) rfl rfl ?_
              refine z_iret rfl rfl ?_
              refine ⟨?_, ?_⟩
              · first | rfl | exact congrArg (fun v => some (zi v)) (by omega) | (exfalso; omega)
              · exact hr
            · refine z_aload rfl rfl ?_
              refine z_getR (r := 83) rfl rfl (hRr _ rm_50_58 (by decide)) ?_
              refine z_iload rfl rfl ?_
              refine z_iald (v := (-2) - (J (38 + 2 * s.toNat) 2)) rfl rfl (by decide) (by omega) (e83) ?_
              refine z_aload rfl rfl ?_
              refine z_getR (r := 83) rfl rfl (hRr _ rm_50_58 (by decide)) ?_
              refine z_iload rfl rfl ?_
              refine z_iald (v := (-2) - (J (38 + 2 * o.toNat) 2)) rfl rfl (by decide) (by omega) (e83o) ?_
              refine z_icmp_eqT rfl (by omega) (by omega) (by omega) ?_
              refine z_iload rfl rfl ?_
              refine z_if_ltF rfl (by omega) (by omega) ?_
              refine z_iload rfl rfl ?_
              refine z_if_ltT rfl (by omega) (by omega) ?_
              refine z_pushI (z := (-13)) rfl rfl ?_
              refine z_iret rfl rfl ?_
              refine ⟨?_, ?_⟩
              · first | rfl | exact congrArg (fun v => some (zi v)) (by omega) | (exfalso; omega)
              · exact hr
          · refine z_pushI (z := (-11)) rfl rfl ?_
            refine z_iret rfl rfl ?_
            refine ⟨?_, ?_⟩
            · first | rfl | exact congrArg (fun v => some (zi v)) (by omega) | (exfalso; omega)
            · exact hr
      · refine z_iload rfl rfl ?_
        refine z_if_ltF rfl (by omega) (by omega) ?_
        refine z_iload rfl rfl ?_
        refine z_aload rfl rfl ?_
        refine z_getI (v := J (38 + 2 * s.toNat) 3) rfl (zk_shelf (by omega)) (rfl) ?_
        refine z_iload rfl rfl ?_
        refine z_isub (e := (J (38 + 2 * s.toNat) 3) - n) rfl rfl ?_
        refine z_icmp_gt rfl (by omega) (by omega) (fun h4 => ?_) (fun h4 => ?_)
        · refine z_pushI (z := 0) rfl rfl ?_
          refine z_bret rfl rfl (by decide) ?_
          show zW _ _ _ _ _ _ _ _ _ _
          refine z_if_eqT rfl (by decide) (by decide) ?_
          refine z_pushI (z := (-13)) rfl rfl ?_
          refine z_iret rfl rfl ?_
          refine ⟨_, rfl, ?_⟩
          show zW _ _ _ _ [some (.ref 50), some (zi s), some (zi i), some (zi o), some (zi j), some (zi n), none] _ _ _ _ _
          refine z_iload rfl rfl ?_
          refine z_callSi (As := [_]) (le := [some _]) rfl rfl (Nat.le_of_ble_eq_true rfl) (Nat.le_of_ble_eq_true rfl) rfl ?_
          refine z_iload rfl rfl ?_
          refine z_pushI (z := 0) rfl rfl ?_
          refine z_pushI (z := 5) rfl rfl ?_
          refine z_callSi (As := [_, _, _]) (le := [some _, some _, some _]) rfl rfl (Nat.le_of_ble_eq_true rfl) (Nat.le_of_ble_eq_true rfl) rfl ?_
          refine z_iload rfl rfl ?_
          refine z_iload rfl rfl ?_
          refine z_icmp_ltF rfl (by omega) (by decide) (by omega) ?_
          refine z_iload rfl rfl ?_
          refine z_iload rfl rfl ?_
          refine z_icmp_gtF rfl (by omega) (by decide) (by omega) ?_
          refine z_pushI (z := 1) rfl rfl ?_
          refine z_goto rfl ?_
          refine z_bret rfl rfl (by decide) ?_
          show zW _ _ _ _ _ _ _ _ _ _
          refine z_bret rfl rfl (by decide) ?_
          show zW _ _ _ _ _ _ _ _ _ _
          refine z_if_eqF rfl (by decide) (by decide) ?_
          refine z_iload rfl rfl ?_
          refine z_callSi (As := [_]) (le := [some _]) rfl rfl (Nat.le_of_ble_eq_true rfl) (Nat.le_of_ble_eq_true rfl) rfl ?_
          refine z_iload rfl rfl ?_
          refine z_pushI (z := 0) rfl rfl ?_
          refine z_pushI (z := 5) rfl rfl ?_
          refine z_callSi (As := [_, _, _]) (le := [some _, some _, some _]) rfl rfl (Nat.le_of_ble_eq_true rfl) (Nat.le_of_ble_eq_true rfl) rfl ?_
          refine z_iload rfl rfl ?_
          refine z_iload rfl rfl ?_
          refine z_icmp_ltF rfl (by omega) (by decide) (by omega) ?_
          refine z_iload rfl rfl ?_
          refine z_iload rfl rfl ?_
          refine z_icmp_gtF rfl (by omega) (by decide) (by omega) ?_
          refine z_pushI (z := 1) rfl rfl ?_
          refine z_goto rfl ?_
          refine z_bret rfl rfl (by decide) ?_
          show zW _ _ _ _ _ _ _ _ _ _
          refine z_bret rfl rfl (by decide) ?_
          show zW _ _ _ _ _ _ _ _ _ _
          refine z_if_neT rfl (by decide) (by decide) ?_
          refine z_aload rfl rfl ?_
          refine z_getR (r := 83) rfl rfl (hRr _ rm_50_58 (by decide)) ?_
          refine z_iload rfl rfl ?_
          refine z_iald (v := (-2) - (J (38 + 2 * s.toNat) 2)) rfl rfl (by decide) (by omega) (e83) ?_
          refine z_pushI (z := (-1)) rfl rfl ?_
          refine z_icmp_eq rfl (by omega) (by decide) (fun h5 => ?_) (fun h5 => ?_)
          · refine z_pushI (z := (-11)) rfl rfl ?_
            refine z_iret rfl rfl ?_
            refine ⟨?_, ?_⟩
            · first | rfl | exact congrArg (fun v => some (zi v)) (by omega) | (exfalso; omega)
            · exact hr
          · refine z_aload rfl rfl ?_
            refine z_getR (r := 83) rfl rfl (hRr _ rm_50_58 (by decide)) ?_
            refine z_iload rfl rfl ?_
            refine z_iald (v := (-2) - (J (38 + 2 * o.toNat) 2)) rfl rfl (by decide) (by omega) (e83o) ?_
            refine z_pushI (z := (-1)) rfl rfl ?_
            refine z_icmp_ne rfl (by omega) (by decide) (fun h6 => ?_) (fun h6 => ?_)
            · refine z_aload rfl rfl ?_
              refine z_getR (r := 83) rfl rfl (hRr _ rm_50_58 (by decide)) ?_
              refine z_iload rfl rfl ?_
              refine z_iald (v := (-2) - (J (38 + 2 * s.toNat) 2)) rfl rfl (by decide) (by omega) (e83) ?_
              refine z_if_ge rfl (by omega) (fun h7 => ?_) (fun h7 => ?_)
              · refine z_pushI (z := (-12)) rfl rfl ?_
                refine z_iret rfl rfl ?_
                refine ⟨?_, ?_⟩
                · first | rfl | exact congrArg (fun v => some (zi v)) (by omega) | (exfalso; omega)
                · exact hr
              · refine z_aload rfl rfl ?_
                refine z_getR (r := 83) rfl rfl (hRr _ rm_50_58 (by decide)) ?_
                refine z_iload rfl rfl ?_
                refine z_iald (v := (-2) - (J (38 + 2 * s.toNat) 2)) rfl rfl (by decide) (by omega) (e83) ?_
                refine z_aload rfl rfl ?_
                refine z_getR (r := 83) rfl rfl (hRr _ rm_50_58 (by decide)) ?_
                refine z_iload rfl rfl ?_
                refine z_iald (v := (-2) - (J (38 + 2 * o.toNat) 2)) rfl rfl (by decide) (by omega) (e83o) ?_
                refine z_icmp_eqT rfl (by omega) (by omega) (by omega) ?_
                refine z_iload rfl rfl ?_
                refine z_if_ltF rfl (by omega) (by omega) ?_
                refine z_iload rfl rfl ?_
                refine z_if_ltF rfl (by omega) (by omega) ?_
                refine z_iload rfl rfl ?_
                refine z_if_lt rfl (by omega) (fun h8 => ?_) (fun h8 => ?_)
                · refine z_pushI (z := (-13)) rfl rfl ?_
                  refine z_iret rfl rfl ?_
                  refine ⟨?_, ?_⟩
                  · first | rfl | exact congrArg (fun v => some (zi v)) (by omega) | (exfalso; omega)
                  · exact hr
                · refine z_iload rfl rfl ?_
                  refine z_aload rfl rfl ?_
                  refine z_getR (r := 84) rfl rfl (hRr _ rm_50_59 (by decide)) ?_
                  refine z_iload rfl rfl ?_
                  refine z_iald (v := J (38 + 2 * s.toNat) 3) rfl rfl (by decide) (by omega) (s7) ?_
                  refine z_iload rfl rfl ?_
                  refine z_isub (e := (J (38 + 2 * s.toNat) 3) - n) rfl rfl ?_
                  refine z_icmp_gtT rfl (by omega) (by omega) (by omega) ?_
                  refine z_pushI (z := (-13)) rfl rfl ?_
                  refine z_iret rfl rfl ?_
                  refine ⟨?_, ?_⟩
                  · first | rfl | exact congrArg (fun v => some (zi v)) (by omega) | (exfalso; omega)
                  · exact hr
            · refine z_pushI (z := (-11)) rfl rfl ?_
              refine z_iret rfl rfl ?_
              refine ⟨?_, ?_⟩
              · first | rfl | exact congrArg (fun v => some (zi v)) (by omega) | (exfalso; omega)
              · exact hr
        · refine z_pushI (z := 1) rfl rfl ?_
          refine z_goto rfl ?_
          refine z_bret rfl rfl (by decide) ?_
          show zW _ _ _ _ _ _ _ _ _ _
          refine z_if_eqF rfl (by decide) (by decide) ?_
          refine z_aload rfl rfl ?_
          refine z_iload rfl rfl ?_
          refine z_iload rfl rfl ?_
          refine z_callVi (As := [_, _]) (le := [some _, some _, some _]) rfl rfl (zk_shelf (by omega)) (Nat.le_of_ble_eq_true rfl) (Nat.le_of_ble_eq_true rfl) rfl ?_
          refine z_iload rfl rfl ?_
          refine z_if_lt rfl (by omega) (fun h5 => ?_) (fun h5 => ?_)
          · refine z_pushI (z := 0) rfl rfl ?_
            refine z_bret rfl rfl (by decide) ?_
            show zW _ _ _ _ _ _ _ _ _ _
            refine z_if_neF rfl (by decide) (by decide) ?_
            refine z_pushI (z := (-13)) rfl rfl ?_
            refine z_iret rfl rfl ?_
            refine ⟨_, rfl, ?_⟩
            show zW _ _ _ _ [some (.ref 50), some (zi s), some (zi i), some (zi o), some (zi j), some (zi n), none] _ _ _ _ _
            refine z_iload rfl rfl ?_
            refine z_callSi (As := [_]) (le := [some _]) rfl rfl (Nat.le_of_ble_eq_true rfl) (Nat.le_of_ble_eq_true rfl) rfl ?_
            refine z_iload rfl rfl ?_
            refine z_pushI (z := 0) rfl rfl ?_
            refine z_pushI (z := 5) rfl rfl ?_
            refine z_callSi (As := [_, _, _]) (le := [some _, some _, some _]) rfl rfl (Nat.le_of_ble_eq_true rfl) (Nat.le_of_ble_eq_true rfl) rfl ?_
            refine z_iload rfl rfl ?_
            refine z_iload rfl rfl ?_
            refine z_icmp_ltF rfl (by omega) (by decide) (by omega) ?_
            refine z_iload rfl rfl ?_
            refine z_iload rfl rfl ?_
            refine z_icmp_gtF rfl (by omega) (by decide) (by omega) ?_
            refine z_pushI (z := 1) rfl rfl ?_
            refine z_goto rfl ?_
            refine z_bret rfl rfl (by decide) ?_
            show zW _ _ _ _ _ _ _ _ _ _
            refine z_bret rfl rfl (by decide) ?_
            show zW _ _ _ _ _ _ _ _ _ _
            refine z_if_eqF rfl (by decide) (by decide) ?_
            refine z_iload rfl rfl ?_
            refine z_callSi (As := [_]) (le := [some _]) rfl rfl (Nat.le_of_ble_eq_true rfl) (Nat.le_of_ble_eq_true rfl) rfl ?_
            refine z_iload rfl rfl ?_
            refine z_pushI (z := 0) rfl rfl ?_
            refine z_pushI (z := 5) rfl rfl ?_
            refine z_callSi (As := [_, _, _]) (le := [some _, some _, some _]) rfl rfl (Nat.le_of_ble_eq_true rfl) (Nat.le_of_ble_eq_true rfl) rfl ?_
            refine z_iload rfl rfl ?_
            refine z_iload rfl rfl ?_
            refine z_icmp_ltF rfl (by omega) (by decide) (by omega) ?_
            refine z_iload rfl rfl ?_
            refine z_iload rfl rfl ?_
            refine z_icmp_gtF rfl (by omega) (by decide) (by omega) ?_
            refine z_pushI (z := 1) rfl rfl ?_
            refine z_goto rfl ?_
            refine z_bret rfl rfl (by decide) ?_
            show zW _ _ _ _ _ _ _ _ _ _
            refine z_bret rfl rfl (by decide) ?_
            show zW _ _ _ _ _ _ _ _ _ _
            refine z_if_neT rfl (by decide) (by decide) ?_
            refine z_aload rfl rfl ?_
            refine z_getR (r := 83) rfl rfl (hRr _ rm_50_58 (by decide)) ?_
            refine z_iload rfl rfl ?_
            refine z_iald (v := (-2) - (J (38 + 2 * s.toNat) 2)) rfl rfl (by decide) (by omega) (e83) ?_
            refine z_pushI (z := (-1)) rfl rfl ?_
            refine z_icmp_eq rfl (by omega) (by decide) (fun h6 => ?_) (fun h6 => ?_)
            · refine z_pushI (z := (-11)) rfl rfl ?_
              refine z_iret rfl rfl ?_
              refine ⟨?_, ?_⟩
              · first | rfl | exact congrArg (fun v => some (zi v)) (by omega) | (exfalso; omega)
              · exact hr
            · refine z_aload rfl rfl ?_
              refine z_getR (r := 83) rfl rfl (hRr _ rm_50_58 (by decide)) ?_
              refine z_iload rfl rfl ?_
              refine z_iald (v := (-2) - (J (38 + 2 * o.toNat) 2)) rfl rfl (by decide) (by omega) (e83o) ?_
              refine z_pushI (z := (-1)) rfl rfl ?_
              refine z_icmp_ne rfl (by omega) (by decide) (fun h7 => ?_) (fun h7 => ?_)
              · refine z_aload rfl rfl ?_
                refine z_getR (r := 83) rfl rfl (hRr _ rm_50_58 (by decide)) ?_
                refine z_iload rfl rfl ?_
                refine z_iald (v := (-2) - (J (38 + 2 * s.toNat) 2)) rfl rfl (by decide) (by omega) (e83) ?_
                refine z_if_ge rfl (by omega) (fun h8 => ?_) (fun h8 => ?_)
                · refine z_pushI (z := (-12)) rfl rfl ?_
                  refine z_iret rfl rfl ?_
                  refine ⟨?_, ?_⟩
                  · first | rfl | exact congrArg (fun v => some (zi v)) (by omega) | (exfalso; omega)
                  · exact hr
                · refine z_aload rfl rfl ?_
                  refine z_getR (r := 83) rfl rfl (hRr _ rm_50_58 (by decide)) ?_
                  refine z_iload rfl rfl ?_
                  refine z_iald (v := (-2) - (J (38 + 2 * s.toNat) 2)) rfl rfl (by decide) (by omega) (e83) ?_
                  refine z_aload rfl rfl ?_
                  refine z_getR (r := 83) rfl rfl (hRr _ rm_50_58 (by decide)) ?_
                  refine z_iload rfl rfl ?_
                  refine z_iald (v := (-2) - (J (38 + 2 * o.toNat) 2)) rfl rfl (by decide) (by omega) (e83o) ?_
                  refine z_icmp_eqT rfl (by omega) (by omega) (by omega) ?_
                  refine z_iload rfl rfl ?_
                  refine z_if_ltF rfl (by omega) (by omega) ?_
                  refine z_iload rfl rfl ?_
                  refine z_if_ltF rfl (by omega) (by omega) ?_
                  refine z_iload rfl rfl ?_
                  refine z_if_ltT rfl (by omega) (by omega) ?_
                  refine z_pushI (z := (-13)) rfl rfl ?_
                  refine z_iret rfl rfl ?_
                  refine ⟨?_, ?_⟩
                  · first | rfl | exact congrArg (fun v => some (zi v)) (by omega) | (exfalso; omega)
                  · exact hr
              · refine z_pushI (z := (-11)) rfl rfl ?_
                refine z_iret rfl rfl ?_
                refine ⟨?_, ?_⟩
                · first | rfl | exact congrArg (fun v => some (zi v)) (by omega) | (exfalso; omega)
                · exact hr
          · refine z_iload rfl rfl ?_
            refine z_if_ltF rfl (by omega) (by omega) ?_
            refine z_iload rfl rfl ?_
            refine z_aload rfl rfl ?_
            refine z_getI (v := J (38 + 2 * o.toNat) 3) rfl (zk_shelf (by omega)) (rfl) ?_
            refine z_iload rfl rfl ?_
            refine z_isub (e := (J (38 + 2 * o.toNat) 3) - n) rfl rfl ?_
            refine z_icmp_gt rfl (by omega) (by omega) (fun h6 => ?_) (fun h6 => ?_)
            · refine z_pushI (z := 0) rfl rfl ?_
              refine z_bret rfl rfl (by decide) ?_
              show zW _ _ _ _ _ _ _ _ _ _
              refine z_if_neF rfl (by decide) (by decide) ?_
              refine z_pushI (z := (-13)) rfl rfl ?_
              refine z_iret rfl rfl ?_
              refine ⟨_, rfl, ?_⟩
              show zW _ _ _ _ [some (.ref 50), some (zi s), some (zi i), some (zi o), some (zi j), some (zi n), none] _ _ _ _ _
              refine z_iload rfl rfl ?_
              refine z_callSi (As := [_]) (le := [some _]) rfl rfl (Nat.le_of_ble_eq_true rfl) (Nat.le_of_ble_eq_true rfl) rfl ?_
              refine z_iload rfl rfl ?_
              refine z_pushI (z := 0) rfl rfl ?_
              refine z_pushI (z := 5) rfl rfl ?_
              refine z_callSi (As := [_, _, _]) (le := [some _, some _, some _]) rfl rfl (Nat.le_of_ble_eq_true rfl) (Nat.le_of_ble_eq_true rfl) rfl ?_
              refine z_iload rfl rfl ?_
              refine z_iload rfl rfl ?_
              refine z_icmp_ltF rfl (by omega) (by decide) (by omega) ?_
              refine z_iload rfl rfl ?_
              refine z_iload rfl rfl ?_
              refine z_icmp_gtF rfl (by omega) (by decide) (by omega) ?_
              refine z_pushI (z := 1) rfl rfl ?_
              refine z_goto rfl ?_
              refine z_bret rfl rfl (by decide) ?_
              show zW _ _ _ _ _ _ _ _ _ _
              refine z_bret rfl rfl (by decide) ?_
              show zW _ _ _ _ _ _ _ _ _ _
              refine z_if_eqF rfl (by decide) (by decide) ?_
              refine z_iload rfl rfl ?_
              refine z_callSi (As := [_]) (le := [some _]) rfl rfl (Nat.le_of_ble_eq_true rfl) (Nat.le_of_ble_eq_true rfl) rfl ?_
              refine z_iload rfl rfl ?_
              refine z_pushI (z := 0) rfl rfl ?_
              refine z_pushI (z := 5) rfl rfl ?_
              refine z_callSi (As := [_, _, _]) (le := [some _, some _, some _]) rfl rfl (Nat.le_of_ble_eq_true rfl) (Nat.le_of_ble_eq_true rfl) rfl ?_
              refine z_iload rfl rfl ?_
              refine z_iload rfl rfl ?_
              refine z_icmp_ltF rfl (by omega) (by decide) (by omega) ?_
              refine z_iload rfl rfl ?_
              refine z_iload rfl rfl ?_
              refine z_icmp_gtF rfl (by omega) (by decide) (by omega) ?_
              refine z_pushI (z := 1) rfl rfl ?_
              refine z_goto rfl ?_
              refine z_bret rfl rfl (by decide) ?_
              show zW _ _ _ _ _ _ _ _ _ _
              refine z_bret rfl rfl (by decide) ?_
              show zW _ _ _ _ _ _ _ _ _ _
              refine z_if_neT rfl (by decide) (by decide) ?_
              refine z_aload rfl rfl ?_
              refine z_getR (r := 83) rfl rfl (hRr _ rm_50_58 (by decide)) ?_
              refine z_iload rfl rfl ?_
              refine z_iald (v := (-2) - (J (38 + 2 * s.toNat) 2)) rfl rfl (by decide) (by omega) (e83) ?_
              refine z_pushI (z := (-1)) rfl rfl ?_
              refine z_icmp_eq rfl (by omega) (by decide) (fun h7 => ?_) (fun h7 => ?_)
              · refine z_pushI (z := (-11)) rfl rfl ?_
                refine z_iret rfl rfl ?_
                refine ⟨?_, ?_⟩
                · first | rfl | exact congrArg (fun v => some (zi v)) (by omega) | (exfalso; omega)
                · exact hr
              · refine z_aload rfl rfl ?_
                refine z_getR (r := 83) rfl rfl (hRr _ rm_50_58 (by decide)) ?_
                refine z_iload rfl rfl ?_
                refine z_iald (v := (-2) - (J (38 + 2 * o.toNat) 2)) rfl rfl (by decide) (by omega) (e83o) ?_
                refine z_pushI (z := (-1)) rfl rfl ?_
                refine z_icmp_ne rfl (by omega) (by decide) (fun h8 => ?_) (fun h8 => ?_)
                · refine z_aload rfl rfl ?_
                  refine z_getR (r := 83) rfl rfl (hRr _ rm_50_58 (by decide)) ?_
                  refine z_iload rfl rfl ?_
                  refine z_iald (v := (-2) - (J (38 + 2 * s.toNat) 2)) rfl rfl (by decide) (by omega) (e83) ?_
                  refine z_if_ge rfl (by omega) (fun h9 => ?_) (fun h9 => ?_)
                  · refine z_pushI (z := (-12)) rfl rfl ?_
                    refine z_iret rfl rfl ?_
                    refine ⟨?_, ?_⟩
                    · first | rfl | exact congrArg (fun v => some (zi v)) (by omega) | (exfalso; omega)
                    · exact hr
                  · refine z_aload rfl rfl ?_
                    refine z_getR (r := 83) rfl rfl (hRr _ rm_50_58 (by decide)) ?_
                    refine z_iload rfl rfl ?_
                    refine z_iald (v := (-2) - (J (38 + 2 * s.toNat) 2)) rfl rfl (by decide) (by omega) (e83) ?_
                    refine z_aload rfl rfl ?_
                    refine z_getR (r := 83) rfl rfl (hRr _ rm_50_58 (by decide)) ?_
                    refine z_iload rfl rfl ?_
                    refine z_iald (v := (-2) - (J (38 + 2 * o.toNat) 2)) rfl rfl (by decide) (by omega) (e83o) ?_
                    refine z_icmp_eqT rfl (by omega) (by omega) (by omega) ?_
                    refine z_iload rfl rfl ?_
                    refine z_if_ltF rfl (by omega) (by omega) ?_
                    refine z_iload rfl rfl ?_
                    refine z_if_ltF rfl (by omega) (by omega) ?_
                    refine z_iload rfl rfl ?_
                    refine z_if_ltF rfl (by omega) (by omega) ?_
                    refine z_iload rfl rfl ?_
                    refine z_aload rfl rfl ?_
                    refine z_getR (r := 84) rfl rfl (hRr _ rm_50_59 (by decide)) ?_
                    refine z_iload rfl rfl ?_
                    refine z_iald (v := J (38 + 2 * s.toNat) 3) rfl rfl (by decide) (by omega) (s7) ?_
                    refine z_iload rfl rfl ?_
                    refine z_isub (e := (J (38 + 2 * s.toNat) 3) - n) rfl rfl ?_
                    refine z_icmp_gtF rfl (by omega) (by omega) (by omega) ?_
                    refine z_iload rfl rfl ?_
                    refine z_aload rfl rfl ?_
                    refine z_getR (r := 84) rfl rfl (hRr _ rm_50_59 (by decide)) ?_
                    refine z_iload rfl rfl ?_
                    refine z_iald (v := J (38 + 2 * o.toNat) 3) rfl rfl (by decide) (by omega) (s7o) ?_
                    refine z_iload rfl rfl ?_
                    refine z_isub (e := (J (38 + 2 * o.toNat) 3) - n) rfl rfl ?_
                    refine z_icmp_leF rfl (by omega) (by omega) (by omega) ?_
                    refine z_pushI (z := (-13)) rfl rfl ?_
                    refine z_iret rfl rfl ?_
                    refine ⟨?_, ?_⟩
                    · first | rfl | exact congrArg (fun v => some (zi v)) (by omega) | (exfalso; omega)
                    · exact hr
                · refine z_pushI (z := (-11)) rfl rfl ?_
                  refine z_iret rfl rfl ?_
                  refine ⟨?_, ?_⟩
                  · first | rfl | exact congrArg (fun v => some (zi v)) (by omega) | (exfalso; omega)
                  · exact hr
            · refine z_pushI (z := 1) rfl rfl ?_
              refine z_goto rfl ?_
              refine z_bret rfl rfl (by decide) ?_
              show zW _ _ _ _ _ _ _ _ _ _
              refine z_if_neT rfl (by decide) (by decide) ?_
              refine z_aload rfl rfl ?_
              refine z_getR (r := 39 + 2 * s.toNat) rfl (zk_shelf (by omega)) (rr_cells hR (by omega)) ?_
              refine z_iload rfl rfl ?_
              refine z_aload rfl rfl ?_
              refine z_getR (r := 39 + 2 * o.toNat) rfl (zk_shelf (by omega)) (rr_cells hR (by omega)) ?_
              refine z_iload rfl rfl ?_
              refine z_iload rfl rfl ?_
              refine z_copyL rfl (zk_cells (by omega)) (zk_cells (by omega)) (by decide) (by decide) (by omega) (by omega) (by omega) (by omega) (by omega) (by decide) ?_
              refine z_iload rfl rfl ?_
              refine z_iret rfl rfl ?_
              refine ⟨_, rfl, ?_⟩
              show zW _ _ _ _ [some (.ref 50), some (zi s), some (zi i), some (zi o), some (zi j), some (zi n), none] _ _ _ _ _
              refine z_iload rfl rfl ?_
              refine z_callSi (As := [_]) (le := [some _]) rfl rfl (Nat.le_of_ble_eq_true rfl) (Nat.le_of_ble_eq_true rfl) rfl ?_
              refine z_iload rfl rfl ?_
              refine z_pushI (z := 0) rfl rfl ?_
              refine z_pushI (z := 5) rfl rfl ?_
              refine z_callSi (As := [_, _, _]) (le := [some _, some _, some _]) rfl rfl (Nat.le_of_ble_eq_true rfl) (Nat.le_of_ble_eq_true rfl) rfl ?_
              refine z_iload rfl rfl ?_
              refine z_iload rfl rfl ?_
              refine z_icmp_ltF rfl (by omega) (by decide) (by omega) ?_
              refine z_iload rfl rfl ?_
              refine z_iload rfl rfl ?_
              refine z_icmp_gtF rfl (by omega) (by decide) (by omega) ?_
              refine z_pushI (z := 1) rfl rfl ?_
              refine z_goto rfl ?_
              refine z_bret rfl rfl (by decide) ?_
              show zW _ _ _ _ _ _ _ _ _ _
              refine z_bret rfl rfl (by decide) ?_
              show zW _ _ _ _ _ _ _ _ _ _
              refine z_if_eqF rfl (by decide) (by decide) ?_
              refine z_iload rfl rfl ?_
              refine z_callSi (As := [_]) (le := [some _]) rfl rfl (Nat.le_of_ble_eq_true rfl) (Nat.le_of_ble_eq_true rfl) rfl ?_
              refine z_iload rfl rfl ?_
              refine z_pushI (z := 0) rfl rfl ?_
              refine z_pushI (z := 5) rfl rfl ?_
              refine z_callSi (As := [_, _, _]) (le := [some _, some _, some _]) rfl rfl (Nat.le_of_ble_eq_true rfl) (Nat.le_of_ble_eq_true rfl) rfl ?_
              refine z_iload rfl rfl ?_
              refine z_iload rfl rfl ?_
              refine z_icmp_ltF rfl (by omega) (by decide) (by omega) ?_
              refine z_iload rfl rfl ?_
              refine z_iload rfl rfl ?_
              refine z_icmp_gtF rfl (by omega) (by decide) (by omega) ?_
              refine z_pushI (z := 1) rfl rfl ?_
              refine z_goto rfl ?_
              refine z_bret rfl rfl (by decide) ?_
              show zW _ _ _ _ _ _ _ _ _ _
              refine z_bret rfl rfl (by decide) ?_
              show zW _ _ _ _ _ _ _ _ _ _
              refine z_if_neT rfl (by decide) (by decide) ?_
              refine z_aload rfl rfl ?_
              refine z_getR (r := 83) rfl rfl (hRr _ rm_50_58 (by decide)) ?_
              refine z_iload rfl rfl ?_
              refine z_iald (v := (-2) - (J (38 + 2 * s.toNat) 2)) rfl rfl (by decide) (by omega) (e83) ?_
              refine z_pushI (z := (-1)) rfl rfl ?_
              refine z_icmp_eq rfl (by omega) (by decide) (fun h7 => ?_) (fun h7 => ?_)
              · refine z_pushI (z := (-11)) rfl rfl ?_
                refine z_iret rfl rfl ?_
                refine ⟨?_, ?_⟩
                · exfalso
                  omega
                · exfalso
                  omega
              · refine z_aload rfl rfl ?_
                refine z_getR (r := 83) rfl rfl (hRr _ rm_50_58 (by decide)) ?_
                refine z_iload rfl rfl ?_
                refine z_iald (v := (-2) - (J (38 + 2 * o.toNat) 2)) rfl rfl (by decide) (by omega) (e83o) ?_
                refine z_pushI (z := (-1)) rfl rfl ?_
                refine z_icmp_ne rfl (by omega) (by decide) (fun h8 => ?_) (fun h8 => ?_)
                · refine z_aload rfl rfl ?_
                  refine z_getR (r := 83) rfl rfl (hRr _ rm_50_58 (by decide)) ?_
                  refine z_iload rfl rfl ?_
                  refine z_iald (v := (-2) - (J (38 + 2 * s.toNat) 2)) rfl rfl (by decide) (by omega) (e83) ?_
                  refine z_if_ge rfl (by omega) (fun h9 => ?_) (fun h9 => ?_)
                  · refine z_pushI (z := (-12)) rfl rfl ?_
                    refine z_iret rfl rfl ?_
                    refine ⟨?_, ?_⟩
                    · exfalso
                      omega
                    · exfalso
                      omega
                  · refine z_aload rfl rfl ?_
                    refine z_getR (r := 83) rfl rfl (hRr _ rm_50_58 (by decide)) ?_
                    refine z_iload rfl rfl ?_
                    refine z_iald (v := (-2) - (J (38 + 2 * s.toNat) 2)) rfl rfl (by decide) (by omega) (e83) ?_
                    refine z_aload rfl rfl ?_
                    refine z_getR (r := 83) rfl rfl (hRr _ rm_50_58 (by decide)) ?_
                    refine z_iload rfl rfl ?_
                    refine z_iald (v := (-2) - (J (38 + 2 * o.toNat) 2)) rfl rfl (by decide) (by omega) (e83o) ?_
                    refine z_icmp_eqT rfl (by omega) (by omega) (by omega) ?_
                    refine z_iload rfl rfl ?_
                    refine z_if_ltF rfl (by omega) (by omega) ?_
                    refine z_iload rfl rfl ?_
                    refine z_if_ltF rfl (by omega) (by omega) ?_
                    refine z_iload rfl rfl ?_
                    refine z_if_ltF rfl (by omega) (by omega) ?_
                    refine z_iload rfl rfl ?_
                    refine z_aload rfl rfl ?_
                    refine z_getR (r := 84) rfl rfl (hRr _ rm_50_59 (by decide)) ?_
                    refine z_iload rfl rfl ?_
                    refine z_iald (v := J (38 + 2 * s.toNat) 3) rfl rfl (by decide) (by omega) (s7) ?_
                    refine z_iload rfl rfl ?_
                    refine z_isub (e := (J (38 + 2 * s.toNat) 3) - n) rfl rfl ?_
                    refine z_icmp_gtF rfl (by omega) (by omega) (by omega) ?_
                    refine z_iload rfl rfl ?_
                    refine z_aload rfl rfl ?_
                    refine z_getR (r := 84) rfl rfl (hRr _ rm_50_59 (by decide)) ?_
                    refine z_iload rfl rfl ?_
                    refine z_iald (v := J (38 + 2 * o.toNat) 3) rfl rfl (by decide) (by omega) (s7o) ?_
                    refine z_iload rfl rfl ?_
                    refine z_isub (e := (J (38 + 2 * o.toNat) 3) - n) rfl rfl ?_
                    refine z_icmp_leT rfl (by omega) (by omega) (by omega) ?_
                    refine z_pushI (z := 0) rfl rfl ?_
                    refine z_istore rfl rfl ?_
                    show zW _ _ _ _ [some (.ref 50), some (zi s), some (zi i), some (zi o), some (zi j), some (zi n), some (zi 0)] [] _ _ _ _
                    refine shift1_k hRr (by omega) (by omega) ?_
                    refine z_pushI (z := 0) rfl rfl ?_
                    refine z_istore rfl rfl ?_
                    show zW _ _ _ _ [some (.ref 50), some (zi s), some (zi i), some (zi o), some (zi j), some (zi n), some (zi 0)] [] _ _ _ _
                    refine shift2_k hRr (by omega) (by omega) ?_
                    refine z_iload rfl rfl ?_
                    refine z_iret rfl rfl ?_
                    refine ⟨?_, ?_⟩
                    · first | rfl | exact congrArg (fun v => some (zi v)) (by omega) | (exfalso; omega)
                    · exact ⟨hR, hG, hY, hD, hP, hC, hAc, RelS_shift hS hs6 ho6 hh (by omega) (by omega) (by omega) (by omega) (by omega) (by omega), hTp, hX, hW⟩
                · refine z_pushI (z := (-11)) rfl rfl ?_
                  refine z_iret rfl rfl ?_
                  refine ⟨?_, ?_⟩
                  · exfalso
                    omega
                  · exfalso
                    omega
theorem st_shift_n {X : Nat × (Nat → Int32)} {d : Nat} {J M : zA} {R : zR} {s i o j n : Int} (hr : Rel X J M R) (hs : -2147483648 ≤ s ∧ s < 2147483648) (hi : -2147483648 ≤ i ∧ i < 2147483648) (ho : -2147483648 ≤ o ∧ o < 2147483648) (hj : -2147483648 ≤ j ∧ j < 2147483648) (hn : -2147483648 ≤ n ∧ n < 2147483648) (hs6 : ¬ (0 ≤ s ∧ s < 6)) : zW X (d + 20) 140 0 (gEn 140 [(.ref 0), (zi s), (zi i), (zi o), (zi j), (zi n)]) [] J M R (stP X (d + 20) 254 [(zi s), (zi i), (zi o), (zi j), (zi n)]) := by
  have hr0 := hr
  obtain ⟨hR, hG, hY, hD, hP, hC, hAc, hS, hTp, hX, hW⟩ := hr0
  have hRr : zRoR R := zRoR_of hR
  show zW _ _ _ _ [some (.ref 0), some (zi s), some (zi i), some (zi o), some (zi j), some (zi n), none, none] _ _ _ _ _
  refine z_iload rfl rfl ?_
  refine z_callSi (As := [_]) (le := [some _]) rfl rfl (Nat.le_of_ble_eq_true rfl) (Nat.le_of_ble_eq_true rfl) rfl ?_
  refine z_iload rfl rfl ?_
  refine z_if_lt rfl (by omega) (fun h1 => ?_) (fun h1 => ?_)
  · refine z_pushI (z := 0) rfl rfl ?_
    refine z_bret rfl rfl (by decide) ?_
    show zW _ _ _ _ _ _ _ _ _ _
    refine z_if_eqT rfl (by decide) (by decide) ?_
    refine z_pushI (z := (-1)) rfl rfl ?_
    refine z_iret rfl rfl ?_
    refine ⟨_, rfl, ?_⟩
    show zW _ _ _ _ [some (.ref 50), some (zi s), some (zi i), some (zi o), some (zi j), some (zi n), none] _ _ _ _ _
    refine z_iload rfl rfl ?_
    refine z_callSi (As := [_]) (le := [some _]) rfl rfl (Nat.le_of_ble_eq_true rfl) (Nat.le_of_ble_eq_true rfl) rfl ?_
    refine z_iload rfl rfl ?_
    refine z_pushI (z := 0) rfl rfl ?_
    refine z_pushI (z := 5) rfl rfl ?_
    refine z_callSi (As := [_, _, _]) (le := [some _, some _, some _]) rfl rfl (Nat.le_of_ble_eq_true rfl) (Nat.le_of_ble_eq_true rfl) rfl ?_
    refine z_iload rfl rfl ?_
    refine z_iload rfl rfl ?_
    refine z_icmp_ltT rfl (by omega) (by decide) (by omega) ?_
    refine z_pushI (z := 0) rfl rfl ?_
    refine z_bret rfl rfl (by decide) ?_
    show zW _ _ _ _ _ _ _ _ _ _
    refine z_bret rfl rfl (by decide) ?_
    show zW _ _ _ _ _ _ _ _ _ _
    refine z_if_eqT rfl (by decide) (by decide) ?_
    refine z_pushI (z := (-1)) rfl rfl ?_
    refine z_iret rfl rfl ?_
    refine ⟨?_, ?_⟩
    · first | rfl | exact congrArg (fun v => some (zi v)) (by omega) | (exfalso; omega)
    · exact hr
  · refine z_iload rfl rfl ?_
    refine z_pushI (z := 6) rfl rfl ?_
    refine z_icmp_geT rfl (by omega) (by decide) (by omega) ?_
    refine z_pushI (z := 0) rfl rfl ?_
    refine z_bret rfl rfl (by decide) ?_
    show zW _ _ _ _ _ _ _ _ _ _
    refine z_if_eqT rfl (by decide) (by decide) ?_
    refine z_pushI (z := (-1)) rfl rfl ?_
    refine z_iret rfl rfl ?_
    refine ⟨_, rfl, ?_⟩
    show zW _ _ _ _ [some (.ref 50), some (zi s), some (zi i), some (zi o), some (zi j), some (zi n), none] _ _ _ _ _
    refine z_iload rfl rfl ?_
    refine z_callSi (As := [_]) (le := [some _]) rfl rfl (Nat.le_of_ble_eq_true rfl) (Nat.le_of_ble_eq_true rfl) rfl ?_
    refine z_iload rfl rfl ?_
    refine z_pushI (z := 0) rfl rfl ?_
    refine z_pushI (z := 5) rfl rfl ?_
    refine z_callSi (As := [_, _, _]) (le := [some _, some _, some _]) rfl rfl (Nat.le_of_ble_eq_true rfl) (Nat.le_of_ble_eq_true rfl) rfl ?_
    refine z_iload rfl rfl ?_
    refine z_iload rfl rfl ?_
    refine z_icmp_ltF rfl (by omega) (by decide) (by omega) ?_
    refine z_iload rfl rfl ?_
    refine z_iload rfl rfl ?_
    refine z_icmp_gtT rfl (by omega) (by decide) (by omega) ?_
    refine z_pushI (z := 0) rfl rfl ?_
    refine z_bret rfl rfl (by decide) ?_
    show zW _ _ _ _ _ _ _ _ _ _
    refine z_bret rfl rfl (by decide) ?_
    show zW _ _ _ _ _ _ _ _ _ _
    refine z_if_eqT rfl (by decide) (by decide) ?_
    refine z_pushI (z := (-1)) rfl rfl ?_
    refine z_iret rfl rfl ?_
    refine ⟨?_, ?_⟩
    · first | rfl | exact congrArg (fun v => some (zi v)) (by omega) | (exfalso; omega)
    · exact hr
theorem st_shift_m {X : Nat × (Nat → Int32)} {d : Nat} {J M : zA} {R : zR} {s i o j n : Int} (hr : Rel X J M R) (hs : -2147483648 ≤ s ∧ s < 2147483648) (hi : -2147483648 ≤ i ∧ i < 2147483648) (ho : -2147483648 ≤ o ∧ o < 2147483648) (hj : -2147483648 ≤ j ∧ j < 2147483648) (hn : -2147483648 ≤ n ∧ n < 2147483648) (hs6 : 0 ≤ s ∧ s < 6) (ho6 : ¬ (0 ≤ o ∧ o < 6)) : zW X (d + 20) 140 0 (gEn 140 [(.ref 0), (zi s), (zi i), (zi o), (zi j), (zi n)]) [] J M R (stP X (d + 20) 254 [(zi s), (zi i), (zi o), (zi j), (zi n)]) := by
  have hr0 := hr
  obtain ⟨hR, hG, hY, hD, hP, hC, hAc, hS, hTp, hX, hW⟩ := hr0
  have hRr : zRoR R := zRoR_of hR
  show zW _ _ _ _ [some (.ref 0), some (zi s), some (zi i), some (zi o), some (zi j), some (zi n), none, none] _ _ _ _ _
  refine z_iload rfl rfl ?_
  refine z_callSi (As := [_]) (le := [some _]) rfl rfl (Nat.le_of_ble_eq_true rfl) (Nat.le_of_ble_eq_true rfl) rfl ?_
  refine z_iload rfl rfl ?_
  refine z_if_ltF rfl (by omega) (by omega) ?_
  refine z_iload rfl rfl ?_
  refine z_pushI (z := 6) rfl rfl ?_
  refine z_icmp_geF rfl (by omega) (by decide) (by omega) ?_
  refine z_pushI (z := 1) rfl rfl ?_
  refine z_goto rfl ?_
  refine z_bret rfl rfl (by decide) ?_
  show zW _ _ _ _ _ _ _ _ _ _
  refine z_if_eqF rfl (by decide) (by decide) ?_
  refine z_iload rfl rfl ?_
  refine z_callSi (As := [_]) (le := [some _]) rfl rfl (Nat.le_of_ble_eq_true rfl) (Nat.le_of_ble_eq_true rfl) rfl ?_
  refine z_iload rfl rfl ?_
  refine z_if_lt rfl (by omega) (fun h1 => ?_) (fun h1 => ?_)
  · refine z_pushI (z := 0) rfl rfl ?_
    refine z_bret rfl rfl (by decide) ?_
    show zW _ _ _ _ _ _ _ _ _ _
    refine z_if_neF rfl (by decide) (by decide) ?_
    refine z_pushI (z := (-1)) rfl rfl ?_
    refine z_iret rfl rfl ?_
    refine ⟨_, rfl, ?_⟩
    show zW _ _ _ _ [some (.ref 50), some (zi s), some (zi i), some (zi o), some (zi j), some (zi n), none] _ _ _ _ _
    refine z_iload rfl rfl ?_
    refine z_callSi (As := [_]) (le := [some _]) rfl rfl (Nat.le_of_ble_eq_true rfl) (Nat.le_of_ble_eq_true rfl) rfl ?_
    refine z_iload rfl rfl ?_
    refine z_pushI (z := 0) rfl rfl ?_
    refine z_pushI (z := 5) rfl rfl ?_
    refine z_callSi (As := [_, _, _]) (le := [some _, some _, some _]) rfl rfl (Nat.le_of_ble_eq_true rfl) (Nat.le_of_ble_eq_true rfl) rfl ?_
    refine z_iload rfl rfl ?_
    refine z_iload rfl rfl ?_
    refine z_icmp_ltF rfl (by omega) (by decide) (by omega) ?_
    refine z_iload rfl rfl ?_
    refine z_iload rfl rfl ?_
    refine z_icmp_gtF rfl (by omega) (by decide) (by omega) ?_
    refine z_pushI (z := 1) rfl rfl ?_
    refine z_goto rfl ?_
    refine z_bret rfl rfl (by decide) ?_
    show zW _ _ _ _ _ _ _ _ _ _
    refine z_bret rfl rfl (by decide) ?_
    show zW _ _ _ _ _ _ _ _ _ _
    refine z_if_eqF rfl (by decide) (by decide) ?_
    refine z_iload rfl rfl ?_
    refine z_callSi (As := [_]) (le := [some _]) rfl rfl (Nat.le_of_ble_eq_true rfl) (Nat.le_of_ble_eq_true rfl) rfl ?_
    refine z_iload rfl rfl ?_
    refine z_pushI (z := 0) rfl rfl ?_
    refine z_pushI (z := 5) rfl rfl ?_
    refine z_callSi (As := [_, _, _]) (le := [some _, some _, some _]) rfl rfl (Nat.le_of_ble_eq_true rfl) (Nat.le_of_ble_eq_true rfl) rfl ?_
    refine z_iload rfl rfl ?_
    refine z_iload rfl rfl ?_
    refine z_icmp_ltT rfl (by omega) (by decide) (by omega) ?_
    refine z_pushI (z := 0) rfl rfl ?_
    refine z_bret rfl rfl (by decide) ?_
    show zW _ _ _ _ _ _ _ _ _ _
    refine z_bret rfl rfl (by decide) ?_
    show zW _ _ _ _ _ _ _ _ _ _
    refine z_if_neF rfl (by decide) (by decide) ?_
    refine z_pushI (z := (-1)) rfl rfl ?_
    refine z_iret rfl rfl ?_
    refine ⟨?_, ?_⟩
    · first | rfl | exact congrArg (fun v => some (zi v)) (by omega) | (exfalso; omega)
    · exact hr
  · refine z_iload rfl rfl ?_
    refine z_pushI (z := 6) rfl rfl ?_
    refine z_icmp_geT rfl (by omega) (by decide) (by omega) ?_
    refine z_pushI (z := 0) rfl rfl ?_
    refine z_bret rfl rfl (by decide) ?_
    show zW _ _ _ _ _ _ _ _ _ _
    refine z_if_neF rfl (by decide) (by decide) ?_
    refine z_pushI (z := (-1)) rfl rfl ?_
    refine z_iret rfl rfl ?_
    refine ⟨_, rfl, ?_⟩
    show zW _ _ _ _ [some (.ref 50), some (zi s), some (zi i), some (zi o), some (zi j), some (zi n), none] _ _ _ _ _
    refine z_iload rfl rfl ?_
    refine z_callSi (As := [_]) (le := [some _]) rfl rfl (Nat.le_of_ble_eq_true rfl) (Nat.le_of_ble_eq_true rfl) rfl ?_
    refine z_iload rfl rfl ?_
    refine z_pushI (z := 0) rfl rfl ?_
    refine z_pushI (z := 5) rfl rfl ?_
    refine z_callSi (As := [_, _, _]) (le := [some _, some _, some _]) rfl rfl (Nat.le_of_ble_eq_true rfl) (Nat.le_of_ble_eq_true rfl) rfl ?_
    refine z_iload rfl rfl ?_
    refine z_iload rfl rfl ?_
    refine z_icmp_ltF rfl (by omega) (by decide) (by omega) ?_
    refine z_iload rfl rfl ?_
    refine z_iload rfl rfl ?_
    refine z_icmp_gtF rfl (by omega) (by decide) (by omega) ?_
    refine z_pushI (z := 1) rfl rfl ?_
    refine z_goto rfl ?_
    refine z_bret rfl rfl (by decide) ?_
    show zW _ _ _ _ _ _ _ _ _ _
    refine z_bret rfl rfl (by decide) ?_
    show zW _ _ _ _ _ _ _ _ _ _
    refine z_if_eqF rfl (by decide) (by decide) ?_
    refine z_iload rfl rfl ?_
    refine z_callSi (As := [_]) (le := [some _]) rfl rfl (Nat.le_of_ble_eq_true rfl) (Nat.le_of_ble_eq_true rfl) rfl ?_
    refine z_iload rfl rfl ?_
    refine z_pushI (z := 0) rfl rfl ?_
    refine z_pushI (z := 5) rfl rfl ?_
    refine z_callSi (As := [_, _, _]) (le := [some _, some _, some _]) rfl rfl (Nat.le_of_ble_eq_true rfl) (Nat.le_of_ble_eq_true rfl) rfl ?_
    refine z_iload rfl rfl ?_
    refine z_iload rfl rfl ?_
    refine z_icmp_ltF rfl (by omega) (by decide) (by omega) ?_
    refine z_iload rfl rfl ?_
    refine z_iload rfl rfl ?_
    refine z_icmp_gtT rfl (by omega) (by decide) (by omega) ?_
    refine z_pushI (z := 0) rfl rfl ?_
    refine z_bret rfl rfl (by decide) ?_
    show zW _ _ _ _ _ _ _ _ _ _
    refine z_bret rfl rfl (by decide) ?_
    show zW _ _ _ _ _ _ _ _ _ _
    refine z_if_neF rfl (by decide) (by decide) ?_
    refine z_pushI (z := (-1)) rfl rfl ?_
    refine z_iret rfl rfl ?_
    refine ⟨?_, ?_⟩
    · first | rfl | exact congrArg (fun v => some (zi v)) (by omega) | (exfalso; omega)
    · exact hr
theorem st_shift {X : Nat × (Nat → Int32)} {d : Nat} {J M : zA} {R : zR} {s i o j n : Int} (hr : Rel X J M R) (hs : -2147483648 ≤ s ∧ s < 2147483648) (hi : -2147483648 ≤ i ∧ i < 2147483648) (ho : -2147483648 ≤ o ∧ o < 2147483648) (hj : -2147483648 ≤ j ∧ j < 2147483648) (hn : -2147483648 ≤ n ∧ n < 2147483648) : zW X (d + 20) 140 0 (gEn 140 [(.ref 0), (zi s), (zi i), (zi o), (zi j), (zi n)]) [] J M R (stP X (d + 20) 254 [(zi s), (zi i), (zi o), (zi j), (zi n)]) := by
  by_cases hs6 : 0 ≤ s ∧ s < 6
  · by_cases ho6 : 0 ≤ o ∧ o < 6
    · have hS : RelS J M := hr.2.2.2.2.2.2.2.1
      have h2 := (hS s hs6.1 hs6.2).2.1
      have g2 := (hS o ho6.1 ho6.2).2.1
      have h4 : J (38 + 2 * s.toNat) 0 = 0 ∨ J (38 + 2 * s.toNat) 0 = 1 ∨ J (38 + 2 * s.toNat) 0 = 2 := by omega
      have g4 : J (38 + 2 * o.toNat) 0 = 0 ∨ J (38 + 2 * o.toNat) 0 = 1 ∨ J (38 + 2 * o.toNat) 0 = 2 := by omega
      rcases h4 with hh | hh | hh
      · rcases g4 with hho | hho | hho
        · exact st_shift_00 hr hs hi ho hj hn hs6 hh ho6 hho
        · exact st_shift_01 hr hs hi ho hj hn hs6 hh ho6 hho
        · exact st_shift_02 hr hs hi ho hj hn hs6 hh ho6 hho
      · rcases g4 with hho | hho | hho
        · exact st_shift_10 hr hs hi ho hj hn hs6 hh ho6 hho
        · exact st_shift_11 hr hs hi ho hj hn hs6 hh ho6 hho
        · exact st_shift_12 hr hs hi ho hj hn hs6 hh ho6 hho
      · rcases g4 with hho | hho | hho
        · exact st_shift_20 hr hs hi ho hj hn hs6 hh ho6 hho
        · exact st_shift_21 hr hs hi ho hj hn hs6 hh ho6 hho
        · exact st_shift_22 hr hs hi ho hj hn hs6 hh ho6 hho
    · exact st_shift_m hr hs hi ho hj hn hs6 ho6
  · exact st_shift_n hr hs hi ho hj hn hs6
