theorem zC_a0 {J : zA} {a b : Nat} {sp k v : Int} (h0 : 0 ≤ k) (hv : J a (sp + k) = v) : zU (zC J a b sp 0 k) b k v = zC J a b sp 0 (k + 1) := by
  subst hv
  funext x y
  unfold zU zC
  by_cases h : x = b
  · rw [if_pos h, if_pos h, if_pos h]
    by_cases e : y = k
    · rw [if_pos e, if_pos (by omega), e, show sp + (k - 0) = sp + k by omega]
    · rw [if_neg e]
      by_cases c : 0 ≤ y ∧ y < 0 + k
      · rw [if_pos c, if_pos (by omega)]
      · rw [if_neg c, if_neg (by omega)]
  · rw [if_neg h, if_neg h, if_neg h]
theorem zC_b0 {J : zA} {a b : Nat} {dp k v : Int} (h0 : 0 ≤ k) (hv : J a k = v) : zU (zC J a b 0 dp k) b (dp + k) v = zC J a b 0 dp (k + 1) := by
  subst hv
  funext x y
  unfold zU zC
  by_cases h : x = b
  · rw [if_pos h, if_pos h, if_pos h]
    by_cases e : y = dp + k
    · rw [if_pos e, if_pos (by omega), e, show 0 + (dp + k - dp) = k by omega]
    · rw [if_neg e]
      by_cases c : dp ≤ y ∧ y < dp + k
      · rw [if_pos c, if_pos (by omega)]
      · rw [if_neg c, if_neg (by omega)]
  · rw [if_neg h, if_neg h, if_neg h]
theorem zC_none {J : zA} {a b : Nat} {sp dp : Int} : zC J a b sp dp 0 = J := by
  funext x y
  unfold zC
  split
  · rename_i h
    rw [if_neg (by omega), h]
  · rfl
theorem shift1_z {X : Nat × (Nat → Int32)} {d : Nat} {J M : zA} {R : zR} {P : zP} {s i o j n : Int} (hR : zRoR R) (hn : 0 ≤ n ∧ n ≤ 60) (hq : 0 ≤ 60 * s + i ∧ 60 * s + i + n ≤ 360) : ∀ (t : Nat) (k : Int), k + t = n → 0 ≤ k → zW X d 254 147 [some (.ref 50), some (zi s), some (zi i), some (zi o), some (zi j), some (zi n), some (zi n)] [] J (zC M 85 86 (60 * s + i) 0 n) R P → zW X d 254 113 [some (.ref 50), some (zi s), some (zi i), some (zi o), some (zi j), some (zi n), some (zi k)] [] J (zC M 85 86 (60 * s + i) 0 k) R P := by
  intro t
  induction t with
  | zero =>
    intro k hk h0 K
    obtain rfl : k = n := by omega
    refine z_iload rfl rfl ?_
    refine z_iload rfl rfl ?_
    exact z_icmp_geT rfl (by omega) (by omega) (by omega) K
  | succ t ih =>
    intro k hk h0 K
    refine z_iload6 rfl ?_
    refine z_iload5 rfl ?_
    refine z_icmp_geF rfl (by omega) (by omega) (by omega) ?_
    refine z_aload0 rfl ?_
    refine z_getR (r := 86) rfl gk_50 (hR _ rm_50_61 (by decide)) ?_
    refine z_iload6 rfl ?_
    refine z_aload0 rfl ?_
    refine z_getR (r := 85) rfl gk_50 (hR _ rm_50_60 (by decide)) ?_
    refine z_pushJ gp_254_130 ?_
    refine z_iload1 rfl ?_
    refine z_imul (e := 60 * s) rfl rfl ?_
    refine z_iload2 rfl ?_
    refine z_iadd (e := 60 * s + i) rfl rfl ?_
    refine z_iload6 rfl ?_
    refine z_iadd (e := 60 * s + i + k) rfl rfl ?_
    refine z_lald (v := M 85 (60 * s + i + k)) rfl gk_85 (by decide) (by omega) (zC_n (by decide)) ?_
    refine z_last (e := M 85 (60 * s + i + k)) rfl gk_86 (by decide) (by omega) rfl ?_
    refine z_iinc (c := 1) (e := k + 1) (ls1 := [some (.ref 50), some (zi s), some (zi i), some (zi o), some (zi j), some (zi n), some (zi (k + 1))]) rfl rfl rfl rfl rfl ?_
    refine z_goto rfl ?_
    show zW _ _ _ _ [some (.ref 50), some (zi s), some (zi i), some (zi o), some (zi j), some (zi n), some (zi (k + 1))] [] _ _ _ _
    rw [zC_a0 h0 rfl]
    exact ih (k + 1) (by omega) (by omega) K
theorem shift1_k {X : Nat × (Nat → Int32)} {d : Nat} {J M : zA} {R : zR} {P : zP} {s i o j n : Int} (hR : zRoR R) (hn : 0 ≤ n ∧ n ≤ 60) (hq : 0 ≤ 60 * s + i ∧ 60 * s + i + n ≤ 360) (K : zW X d 254 147 [some (.ref 50), some (zi s), some (zi i), some (zi o), some (zi j), some (zi n), some (zi n)] [] J (zC M 85 86 (60 * s + i) 0 n) R P) : zW X d 254 113 [some (.ref 50), some (zi s), some (zi i), some (zi o), some (zi j), some (zi n), some (zi 0)] [] J M R P := by
  have h := shift1_z hR hn hq n.toNat 0 (by omega) (by decide) K
  rw [zC_none] at h
  exact h
theorem shift2_z {X : Nat × (Nat → Int32)} {d : Nat} {J M : zA} {R : zR} {P : zP} {s i o j n : Int} (hR : zRoR R) (hn : 0 ≤ n ∧ n ≤ 60) (hq : 0 ≤ 60 * o + j ∧ 60 * o + j + n ≤ 360) : ∀ (t : Nat) (k : Int), k + t = n → 0 ≤ k → zW X d 254 185 [some (.ref 50), some (zi s), some (zi i), some (zi o), some (zi j), some (zi n), some (zi n)] [] J (zC M 86 85 0 (60 * o + j) n) R P → zW X d 254 150 [some (.ref 50), some (zi s), some (zi i), some (zi o), some (zi j), some (zi n), some (zi k)] [] J (zC M 86 85 0 (60 * o + j) k) R P := by
  intro t
  induction t with
  | zero =>
    intro k hk h0 K
    obtain rfl : k = n := by omega
    refine z_iload rfl rfl ?_
    refine z_iload rfl rfl ?_
    exact z_icmp_geT rfl (by omega) (by omega) (by omega) K
  | succ t ih =>
    intro k hk h0 K
    refine z_iload6 rfl ?_
    refine z_iload5 rfl ?_
    refine z_icmp_geF rfl (by omega) (by omega) (by omega) ?_
    refine z_aload0 rfl ?_
    refine z_getR (r := 85) rfl gk_50 (hR _ rm_50_60 (by decide)) ?_
    refine z_pushJ gp_254_161 ?_
    refine z_iload3 rfl ?_
    refine z_imul (e := 60 * o) rfl rfl ?_
    refine z_iload4 rfl ?_
    refine z_iadd (e := 60 * o + j) rfl rfl ?_
    refine z_iload6 rfl ?_
    refine z_iadd (e := 60 * o + j + k) rfl rfl ?_
    refine z_aload0 rfl ?_
    refine z_getR (r := 86) rfl gk_50 (hR _ rm_50_61 (by decide)) ?_
    refine z_iload6 rfl ?_
    refine z_lald (v := M 86 k) rfl gk_86 (by decide) (by omega) (zC_n (by decide)) ?_
    refine z_last (e := M 86 k) rfl gk_85 (by decide) (by omega) rfl ?_
    refine z_iinc (c := 1) (e := k + 1) (ls1 := [some (.ref 50), some (zi s), some (zi i), some (zi o), some (zi j), some (zi n), some (zi (k + 1))]) rfl rfl rfl rfl rfl ?_
    refine z_goto rfl ?_
    show zW _ _ _ _ [some (.ref 50), some (zi s), some (zi i), some (zi o), some (zi j), some (zi n), some (zi (k + 1))] [] _ _ _ _
    rw [zC_b0 h0 rfl]
    exact ih (k + 1) (by omega) (by omega) K
theorem shift2_k {X : Nat × (Nat → Int32)} {d : Nat} {J M : zA} {R : zR} {P : zP} {s i o j n : Int} (hR : zRoR R) (hn : 0 ≤ n ∧ n ≤ 60) (hq : 0 ≤ 60 * o + j ∧ 60 * o + j + n ≤ 360) (K : zW X d 254 185 [some (.ref 50), some (zi s), some (zi i), some (zi o), some (zi j), some (zi n), some (zi n)] [] J (zC M 86 85 0 (60 * o + j) n) R P) : zW X d 254 150 [some (.ref 50), some (zi s), some (zi i), some (zi o), some (zi j), some (zi n), some (zi 0)] [] J M R P := by
  have h := shift2_z hR hn hq n.toNat 0 (by omega) (by decide) K
  rw [zC_none] at h
  exact h
theorem RelS_shift {J M : zA} {s i o j n : Int} (hS : RelS J M) (hs : 0 ≤ s ∧ s < 6) (ho : 0 ≤ o ∧ o < 6) (hhs : J (38 + 2 * s.toNat) 0 = 2) (hso : J (38 + 2 * s.toNat) 2 = J (38 + 2 * o.toNat) 2) (hi : 0 ≤ i) (hj : 0 ≤ j) (hn : 0 ≤ n) (hin : i + n ≤ J (38 + 2 * s.toNat) 3) (hjn : j + n ≤ J (38 + 2 * o.toNat) 3) : RelS J (zC (zC (zC M (39 + 2 * s.toNat) (39 + 2 * o.toNat) i j n) 85 86 (60 * s + i) 0 n) 86 85 0 (60 * o + j) n) := by
  have e39 : ∀ (t : Int) y, 0 ≤ t → t < 6 → (zC (zC (zC M (39 + 2 * s.toNat) (39 + 2 * o.toNat) i j n) 85 86 (60 * s + i) 0 n) 86 85 0 (60 * o + j) n) (39 + 2 * t.toNat) y = (zC M (39 + 2 * s.toNat) (39 + 2 * o.toNat) i j n) (39 + 2 * t.toNat) y := fun t y t1 t2 => (zC_n (by omega)).trans (zC_n (by omega))
  have e85 : ∀ y, (zC (zC (zC M (39 + 2 * s.toNat) (39 + 2 * o.toNat) i j n) 85 86 (60 * s + i) 0 n) 86 85 0 (60 * o + j) n) 85 y = if 60 * o + j ≤ y ∧ y < 60 * o + j + n then M 85 (60 * s + i + (y - (60 * o + j))) else M 85 y := fun y => by
    show (if (85 : Nat) = 85 then (if 60 * o + j ≤ y ∧ y < 60 * o + j + n then (zC (zC M (39 + 2 * s.toNat) (39 + 2 * o.toNat) i j n) 85 86 (60 * s + i) 0 n) 86 (0 + (y - (60 * o + j))) else (zC (zC M (39 + 2 * s.toNat) (39 + 2 * o.toNat) i j n) 85 86 (60 * s + i) 0 n) 85 y) else _) = _
    rw [if_pos rfl]
    by_cases q : 60 * o + j ≤ y ∧ y < 60 * o + j + n
    · rw [if_pos q, if_pos q]
      show (if (86 : Nat) = 86 then (if 0 ≤ 0 + (y - (60 * o + j)) ∧ 0 + (y - (60 * o + j)) < 0 + n then (zC M (39 + 2 * s.toNat) (39 + 2 * o.toNat) i j n) 85 (60 * s + i + (0 + (y - (60 * o + j)) - 0)) else _) else _) = _
      rw [if_pos rfl, if_pos (by omega), zC_n (by omega), show 0 + (y - (60 * o + j)) - 0 = y - (60 * o + j) by omega]
    · rw [if_neg q, if_neg q, zC_n (by decide), zC_n (by omega)]
  have e1 : ∀ y, (zC M (39 + 2 * s.toNat) (39 + 2 * o.toNat) i j n) (39 + 2 * o.toNat) y = if j ≤ y ∧ y < j + n then M (39 + 2 * s.toNat) (i + (y - j)) else M (39 + 2 * o.toNat) y := fun y => by
    show (if (39 + 2 * o.toNat) = (39 + 2 * o.toNat) then _ else _) = _
    rw [if_pos rfl]
  have rs := hS s hs.1 hs.2
  have ro := hS o ho.1 ho.2
  obtain ⟨q1, q2, q3, q4, q5, q6⟩ := ro
  have rs6 := rs.2.2.2.2.2 hhs
  have s4 := rs.2.2.2.1
  refine RelS_one (J := J) (M := M) (c := o) (fun t t1 t2 te => ⟨fun j => rfl, rfl, rfl⟩) (fun t t1 t2 te => ⟨fun y => ?_, fun y y1 y2 => ?_⟩) rfl ⟨q1, q2, q3, q4, q5, fun hh => ⟨(q6 hh).1, fun y y1 y2 => ?_, fun h0 y y1 y2 => ?_⟩⟩ hS
  · rw [e39 t y t1 t2, zC_n (by omega)]
  · rw [e85, if_neg (by omega)]
  · rw [e39 o y ho.1 ho.2, e85, e1]
    by_cases q : j ≤ y ∧ y < j + n
    · rw [if_pos q, if_pos (by omega), rs6.2.1 (i + (y - j)) (by omega) (by omega), show 60 * s + i + (60 * o + y - (60 * o + j)) = 60 * s + (i + (y - j)) by omega]
    · rw [if_neg q, if_neg (by omega)]
      exact (q6 hh).2.1 y y1 y2
  · rw [e39 o y ho.1 ho.2, e1]
    by_cases q : j ≤ y ∧ y < j + n
    · rw [if_pos q]
      exact rs6.2.2 (by omega) (i + (y - j)) (by omega) (by omega)
    · rw [if_neg q]
      exact (q6 hh).2.2 h0 y y1 y2
theorem st_shift_00 {X : Nat × (Nat → Int32)} {d : Nat} {J M : zA} {R : zR} {s i o j n : Int} (hr : Rel X J M R) (hs : -2147483648 ≤ s ∧ s < 2147483648) (hi : -2147483648 ≤ i ∧ i < 2147483648) (ho : -2147483648 ≤ o ∧ o < 2147483648) (hj : -2147483648 ≤ j ∧ j < 2147483648) (hn : -2147483648 ≤ n ∧ n < 2147483648) (hs6 : 0 ≤ s ∧ s < 6) (hh : J (38 + 2 * s.toNat) 0 = 0) (ho6 : 0 ≤ o ∧ o < 6) (hho : J (38 + 2 * o.toNat) 0 = 0) : zW X (d + 20) 140 0 (gEn 140 [(.ref 0), (zi s), (zi i), (zi o), (zi j), (zi n)]) [] J M R (stP X (d + 20) 254 [(zi s), (zi i), (zi o), (zi j), (zi n)]) := by
  have hr0 := hr
  obtain ⟨hR, hG, hY, hD, hP, hC, hAc, hS, hTp, hX, hW⟩ := hr0
  have hRr : zRoR R := zRoR_of hR
  have hA0 := hAc
  obtain ⟨a1, a2, a3, a4, a5, a6⟩ := hA0
  have e83 : J 83 s = -1 := (hS s hs6.1 hs6.2).1.symm.trans (cH_0 hh)
  have s3 : 0 ≤ J (38 + 2 * s.toNat) 2 ∧ J (38 + 2 * s.toNat) 2 ≤ 4 := (hS s hs6.1 hs6.2).2.2.1
  have s4 : 0 ≤ J (38 + 2 * s.toNat) 3 ∧ J (38 + 2 * s.toNat) 3 ≤ 60 := (hS s hs6.1 hs6.2).2.2.2.1
  have e83o : J 83 o = -1 := (hS o ho6.1 ho6.2).1.symm.trans (cH_0 hho)
  have s3o : 0 ≤ J (38 + 2 * o.toNat) 2 ∧ J (38 + 2 * o.toNat) 2 ≤ 4 := (hS o ho6.1 ho6.2).2.2.1
  have s4o : 0 ≤ J (38 + 2 * o.toNat) 3 ∧ J (38 + 2 * o.toNat) 3 ≤ 60 := (hS o ho6.1 ho6.2).2.2.2.1
  show zW _ _ _ _ [some (.ref 0), some (zi s), some (zi i), some (zi o), some (zi j), some (zi n), none, none] _ _ _ _ _
  refine z_iload1 gi_140_0 ?_
  refine z_cS1 gi_140_1 (Nat.le_of_ble_eq_true rfl) gc_143_I ?_
  refine z_iload0 gi_143_0 ?_
  refine z_if_ltF gi_143_1 (by omega) (by omega) ?_
  refine z_iload0 gi_143_4 ?_
  refine z_pushJ gp_143_5 ?_
  refine z_icmp_geF gi_143_7 (by omega) zr_6 (by omega) ?_
  refine z_pushJ gp_143_10 ?_
  refine z_goto gi_143_11 ?_
  refine z_bret1 gi_143_15 gr_143 ?_
  show zW _ _ _ _ _ _ _ _ _ _
  refine z_if_eqF gi_140_4 zr_1 (by decide) ?_
  refine z_iload3 gi_140_7 ?_
  refine z_cS1 gi_140_8 (Nat.le_of_ble_eq_true rfl) gc_143_I ?_
  refine z_iload0 gi_143_0 ?_
  refine z_if_ltF gi_143_1 (by omega) (by omega) ?_
  refine z_iload0 gi_143_4 ?_
  refine z_pushJ gp_143_5 ?_
  refine z_icmp_geF gi_143_7 (by omega) zr_6 (by omega) ?_
  refine z_pushJ gp_143_10 ?_
  refine z_goto gi_143_11 ?_
  refine z_bret1 gi_143_15 gr_143 ?_
  show zW _ _ _ _ _ _ _ _ _ _
  refine z_if_neT gi_140_11 zr_1 (by decide) ?_
  refine z_aload0 gi_140_16 ?_
  refine z_getR (r := 37) gi_140_17 gk_0 (hR _ rm_0_11) ?_
  refine z_iload1 gi_140_20 ?_
  refine z_aald (r := 38 + 2 * s.toNat) gi_140_21 rfl (by decide) (by omega) (rr_shelf hR (by omega)) ?_
  refine z_astore (ls1 := [some (.ref 0), some (zi s), some (zi i), some (zi o), some (zi j), some (zi n), some (.ref (38 + 2 * s.toNat)), none]) gi_140_22 rfl ?_
  refine z_aload0 gi_140_24 ?_
  refine z_getR (r := 37) gi_140_25 gk_0 (hR _ rm_0_11) ?_
  refine z_iload3 gi_140_28 ?_
  refine z_aald (r := 38 + 2 * o.toNat) gi_140_29 rfl (by decide) (by omega) (rr_shelf hR (by omega)) ?_
  refine z_astore (ls1 := [some (.ref 0), some (zi s), some (zi i), some (zi o), some (zi j), some (zi n), some (.ref (38 + 2 * s.toNat)), some (.ref (38 + 2 * o.toNat))]) gi_140_30 rfl ?_
  refine z_aload6 gi_140_32 ?_
  refine z_callVi (As := []) (le := [some _]) gi_140_34 rfl (zk_shelf (by omega)) (Nat.le_of_ble_eq_true rfl) (Nat.le_of_ble_eq_true rfl) rfl ?_
  refine z_aload0 gi_62_0 ?_
  refine z_getI (v := 0) gi_62_1 (zk_shelf (by omega)) (hh) ?_
  refine z_if_neF gi_62_4 zr_0 (by decide) ?_
  refine z_pushJ gp_62_7 ?_
  refine z_goto gi_62_8 ?_
  refine z_bret1 gi_62_12 gr_62 ?_
  show zW _ _ _ _ _ _ _ _ _ _
  refine z_if_neT gi_140_37 zr_1 (by decide) ?_
  refine z_pushJ gp_140_48 ?_
  refine z_iret gi_140_50 gr_140 ?_
  refine ⟨_, rfl, ?_⟩
  show zW _ _ _ _ [some (.ref 50), some (zi s), some (zi i), some (zi o), some (zi j), some (zi n), none] _ _ _ _ _
  refine z_iload1 gi_254_0 ?_
  refine z_cS1 gi_254_1 (Nat.le_of_ble_eq_true rfl) gc_248_I ?_
  refine z_iload0 gi_248_0 ?_
  refine z_pushJ gp_248_1 ?_
  refine z_pushJ gp_248_2 ?_
  refine z_cS3 gi_248_3 (Nat.le_of_ble_eq_true rfl) gc_148_III ?_
  refine z_iload0 gi_148_0 ?_
  refine z_iload1 gi_148_1 ?_
  refine z_icmp_ltF gi_148_2 (by omega) zr_0 (by omega) ?_
  refine z_iload0 gi_148_5 ?_
  refine z_iload2 gi_148_6 ?_
  refine z_icmp_gtF gi_148_7 (by omega) zr_5 (by omega) ?_
  refine z_pushJ gp_148_10 ?_
  refine z_goto gi_148_11 ?_
  refine z_bret1 gi_148_15 gr_148 ?_
  show zW _ _ _ _ _ _ _ _ _ _
  refine z_bret1 gi_248_6 gr_248 ?_
  show zW _ _ _ _ _ _ _ _ _ _
  refine z_if_eqF gi_254_4 zr_1 (by decide) ?_
  refine z_iload3 gi_254_7 ?_
  refine z_cS1 gi_254_8 (Nat.le_of_ble_eq_true rfl) gc_248_I ?_
  refine z_iload0 gi_248_0 ?_
  refine z_pushJ gp_248_1 ?_
  refine z_pushJ gp_248_2 ?_
  refine z_cS3 gi_248_3 (Nat.le_of_ble_eq_true rfl) gc_148_III ?_
  refine z_iload0 gi_148_0 ?_
  refine z_iload1 gi_148_1 ?_
  refine z_icmp_ltF gi_148_2 (by omega) zr_0 (by omega) ?_
  refine z_iload0 gi_148_5 ?_
  refine z_iload2 gi_148_6 ?_
  refine z_icmp_gtF gi_148_7 (by omega) zr_5 (by omega) ?_
  refine z_pushJ gp_148_10 ?_
  refine z_goto gi_148_11 ?_
  refine z_bret1 gi_148_15 gr_148 ?_
  show zW _ _ _ _ _ _ _ _ _ _
  refine z_bret1 gi_248_6 gr_248 ?_
  show zW _ _ _ _ _ _ _ _ _ _
  refine z_if_neT gi_254_11 zr_1 (by decide) ?_
  refine z_aload0 gi_254_16 ?_
  refine z_getR (r := 83) gi_254_17 gk_50 (hRr _ rm_50_58 (by decide)) ?_
  refine z_iload1 gi_254_20 ?_
  refine z_iald (v := (-1)) gi_254_21 gk_83 (by decide) (by omega) (e83) ?_
  refine z_pushJ gp_254_22 ?_
  refine z_icmp_eqT gi_254_23 zrn_1 zrn_1 (by decide) ?_
  refine z_pushJ gp_254_36 ?_
  refine z_iret gi_254_38 gr_254 ?_
  refine ⟨?_, ?_⟩
  · first | rfl | exact congrArg (fun v => some (zi v)) (by omega) | (exfalso; omega)
  · exact hr
theorem st_shift_01 {X : Nat × (Nat → Int32)} {d : Nat} {J M : zA} {R : zR} {s i o j n : Int} (hr : Rel X J M R) (hs : -2147483648 ≤ s ∧ s < 2147483648) (hi : -2147483648 ≤ i ∧ i < 2147483648) (ho : -2147483648 ≤ o ∧ o < 2147483648) (hj : -2147483648 ≤ j ∧ j < 2147483648) (hn : -2147483648 ≤ n ∧ n < 2147483648) (hs6 : 0 ≤ s ∧ s < 6) (hh : J (38 + 2 * s.toNat) 0 = 0) (ho6 : 0 ≤ o ∧ o < 6) (hho : J (38 + 2 * o.toNat) 0 = 1) : zW X (d + 20) 140 0 (gEn 140 [(.ref 0), (zi s), (zi i), (zi o), (zi j), (zi n)]) [] J M R (stP X (d + 20) 254 [(zi s), (zi i), (zi o), (zi j), (zi n)]) := by
  have hr0 := hr
  obtain ⟨hR, hG, hY, hD, hP, hC, hAc, hS, hTp, hX, hW⟩ := hr0
  have hRr : zRoR R := zRoR_of hR
  have hA0 := hAc
  obtain ⟨a1, a2, a3, a4, a5, a6⟩ := hA0
  have e83 : J 83 s = -1 := (hS s hs6.1 hs6.2).1.symm.trans (cH_0 hh)
  have s3 : 0 ≤ J (38 + 2 * s.toNat) 2 ∧ J (38 + 2 * s.toNat) 2 ≤ 4 := (hS s hs6.1 hs6.2).2.2.1
  have s4 : 0 ≤ J (38 + 2 * s.toNat) 3 ∧ J (38 + 2 * s.toNat) 3 ≤ 60 := (hS s hs6.1 hs6.2).2.2.2.1
  have e83o : J 83 o = J (38 + 2 * o.toNat) 1 := (hS o ho6.1 ho6.2).1.symm.trans (cH_1 hho)
  have s3o : 0 ≤ J (38 + 2 * o.toNat) 2 ∧ J (38 + 2 * o.toNat) 2 ≤ 4 := (hS o ho6.1 ho6.2).2.2.1
  have s4o : 0 ≤ J (38 + 2 * o.toNat) 3 ∧ J (38 + 2 * o.toNat) 3 ≤ 60 := (hS o ho6.1 ho6.2).2.2.2.1
  have s5o : 0 ≤ J (38 + 2 * o.toNat) 1 ∧ J (38 + 2 * o.toNat) 1 < J 34 1 := (hS o ho6.1 ho6.2).2.2.2.2.1 hho
  show zW _ _ _ _ [some (.ref 0), some (zi s), some (zi i), some (zi o), some (zi j), some (zi n), none, none] _ _ _ _ _
  refine z_iload1 gi_140_0 ?_
  refine z_cS1 gi_140_1 (Nat.le_of_ble_eq_true rfl) gc_143_I ?_
  refine z_iload0 gi_143_0 ?_
  refine z_if_ltF gi_143_1 (by omega) (by omega) ?_
  refine z_iload0 gi_143_4 ?_
  refine z_pushJ gp_143_5 ?_
  refine z_icmp_geF gi_143_7 (by omega) zr_6 (by omega) ?_
  refine z_pushJ gp_143_10 ?_
  refine z_goto gi_143_11 ?_
  refine z_bret1 gi_143_15 gr_143 ?_
  show zW _ _ _ _ _ _ _ _ _ _
  refine z_if_eqF gi_140_4 zr_1 (by decide) ?_
  refine z_iload3 gi_140_7 ?_
  refine z_cS1 gi_140_8 (Nat.le_of_ble_eq_true rfl) gc_143_I ?_
  refine z_iload0 gi_143_0 ?_
  refine z_if_ltF gi_143_1 (by omega) (by omega) ?_
  refine z_iload0 gi_143_4 ?_
  refine z_pushJ gp_143_5 ?_
  refine z_icmp_geF gi_143_7 (by omega) zr_6 (by omega) ?_
  refine z_pushJ gp_143_10 ?_
  refine z_goto gi_143_11 ?_
  refine z_bret1 gi_143_15 gr_143 ?_
  show zW _ _ _ _ _ _ _ _ _ _
  refine z_if_neT gi_140_11 zr_1 (by decide) ?_
  refine z_aload0 gi_140_16 ?_
  refine z_getR (r := 37) gi_140_17 gk_0 (hR _ rm_0_11) ?_
  refine z_iload1 gi_140_20 ?_
  refine z_aald (r := 38 + 2 * s.toNat) gi_140_21 rfl (by decide) (by omega) (rr_shelf hR (by omega)) ?_
  refine z_astore (ls1 := [some (.ref 0), some (zi s), some (zi i), some (zi o), some (zi j), some (zi n), some (.ref (38 + 2 * s.toNat)), none]) gi_140_22 rfl ?_
  refine z_aload0 gi_140_24 ?_
  refine z_getR (r := 37) gi_140_25 gk_0 (hR _ rm_0_11) ?_
  refine z_iload3 gi_140_28 ?_
  refine z_aald (r := 38 + 2 * o.toNat) gi_140_29 rfl (by decide) (by omega) (rr_shelf hR (by omega)) ?_
  refine z_astore (ls1 := [some (.ref 0), some (zi s), some (zi i), some (zi o), some (zi j), some (zi n), some (.ref (38 + 2 * s.toNat)), some (.ref (38 + 2 * o.toNat))]) gi_140_30 rfl ?_
  refine z_aload6 gi_140_32 ?_
  refine z_callVi (As := []) (le := [some _]) gi_140_34 rfl (zk_shelf (by omega)) (Nat.le_of_ble_eq_true rfl) (Nat.le_of_ble_eq_true rfl) rfl ?_
  refine z_aload0 gi_62_0 ?_
  refine z_getI (v := 0) gi_62_1 (zk_shelf (by omega)) (hh) ?_
  refine z_if_neF gi_62_4 zr_0 (by decide) ?_
  refine z_pushJ gp_62_7 ?_
  refine z_goto gi_62_8 ?_
  refine z_bret1 gi_62_12 gr_62 ?_
  show zW _ _ _ _ _ _ _ _ _ _
  refine z_if_neT gi_140_37 zr_1 (by decide) ?_
  refine z_pushJ gp_140_48 ?_
  refine z_iret gi_140_50 gr_140 ?_
  refine ⟨_, rfl, ?_⟩
  show zW _ _ _ _ [some (.ref 50), some (zi s), some (zi i), some (zi o), some (zi j), some (zi n), none] _ _ _ _ _
  refine z_iload1 gi_254_0 ?_
  refine z_cS1 gi_254_1 (Nat.le_of_ble_eq_true rfl) gc_248_I ?_
  refine z_iload0 gi_248_0 ?_
  refine z_pushJ gp_248_1 ?_
  refine z_pushJ gp_248_2 ?_
  refine z_cS3 gi_248_3 (Nat.le_of_ble_eq_true rfl) gc_148_III ?_
  refine z_iload0 gi_148_0 ?_
  refine z_iload1 gi_148_1 ?_
  refine z_icmp_ltF gi_148_2 (by omega) zr_0 (by omega) ?_
  refine z_iload0 gi_148_5 ?_
  refine z_iload2 gi_148_6 ?_
  refine z_icmp_gtF gi_148_7 (by omega) zr_5 (by omega) ?_
  refine z_pushJ gp_148_10 ?_
  refine z_goto gi_148_11 ?_
  refine z_bret1 gi_148_15 gr_148 ?_
  show zW _ _ _ _ _ _ _ _ _ _
  refine z_bret1 gi_248_6 gr_248 ?_
  show zW _ _ _ _ _ _ _ _ _ _
  refine z_if_eqF gi_254_4 zr_1 (by decide) ?_
  refine z_iload3 gi_254_7 ?_
  refine z_cS1 gi_254_8 (Nat.le_of_ble_eq_true rfl) gc_248_I ?_
  refine z_iload0 gi_248_0 ?_
  refine z_pushJ gp_248_1 ?_
  refine z_pushJ gp_248_2 ?_
  refine z_cS3 gi_248_3 (Nat.le_of_ble_eq_true rfl) gc_148_III ?_
  refine z_iload0 gi_148_0 ?_
  refine z_iload1 gi_148_1 ?_
  refine z_icmp_ltF gi_148_2 (by omega) zr_0 (by omega) ?_
  refine z_iload0 gi_148_5 ?_
  refine z_iload2 gi_148_6 ?_
  refine z_icmp_gtF gi_148_7 (by omega) zr_5 (by omega) ?_
  refine z_pushJ gp_148_10 ?_
  refine z_goto gi_148_11 ?_
  refine z_bret1 gi_148_15 gr_148 ?_
  show zW _ _ _ _ _ _ _ _ _ _
  refine z_bret1 gi_248_6 gr_248 ?_
  show zW _ _ _ _ _ _ _ _ _ _
  refine z_if_neT gi_254_11 zr_1 (by decide) ?_
  refine z_aload0 gi_254_16 ?_
  refine z_getR (r := 83) gi_254_17 gk_50 (hRr _ rm_50_58 (by decide)) ?_
  refine z_iload1 gi_254_20 ?_
  refine z_iald (v := (-1)) gi_254_21 gk_83 (by decide) (by omega) (e83) ?_
  refine z_pushJ gp_254_22 ?_
  refine z_icmp_eqT gi_254_23 zrn_1 zrn_1 (by decide) ?_
  refine z_pushJ gp_254_36 ?_
  refine z_iret gi_254_38 gr_254 ?_
  refine ⟨?_, ?_⟩
  · first | rfl | exact congrArg (fun v => some (zi v)) (by omega) | (exfalso; omega)
  · exact hr
theorem st_shift_02 {X : Nat × (Nat → Int32)} {d : Nat} {J M : zA} {R : zR} {s i o j n : Int} (hr : Rel X J M R) (hs : -2147483648 ≤ s ∧ s < 2147483648) (hi : -2147483648 ≤ i ∧ i < 2147483648) (ho : -2147483648 ≤ o ∧ o < 2147483648) (hj : -2147483648 ≤ j ∧ j < 2147483648) (hn : -2147483648 ≤ n ∧ n < 2147483648) (hs6 : 0 ≤ s ∧ s < 6) (hh : J (38 + 2 * s.toNat) 0 = 0) (ho6 : 0 ≤ o ∧ o < 6) (hho : J (38 + 2 * o.toNat) 0 = 2) : zW X (d + 20) 140 0 (gEn 140 [(.ref 0), (zi s), (zi i), (zi o), (zi j), (zi n)]) [] J M R (stP X (d + 20) 254 [(zi s), (zi i), (zi o), (zi j), (zi n)]) := by
  have hr0 := hr
  obtain ⟨hR, hG, hY, hD, hP, hC, hAc, hS, hTp, hX, hW⟩ := hr0
  have hRr : zRoR R := zRoR_of hR
  have hA0 := hAc
  obtain ⟨a1, a2, a3, a4, a5, a6⟩ := hA0
  have e83 : J 83 s = -1 := (hS s hs6.1 hs6.2).1.symm.trans (cH_0 hh)
  have s3 : 0 ≤ J (38 + 2 * s.toNat) 2 ∧ J (38 + 2 * s.toNat) 2 ≤ 4 := (hS s hs6.1 hs6.2).2.2.1
  have s4 : 0 ≤ J (38 + 2 * s.toNat) 3 ∧ J (38 + 2 * s.toNat) 3 ≤ 60 := (hS s hs6.1 hs6.2).2.2.2.1
  have e83o : J 83 o = -2 - J (38 + 2 * o.toNat) 2 := (hS o ho6.1 ho6.2).1.symm.trans (cH_2 hho)
  have s3o : 0 ≤ J (38 + 2 * o.toNat) 2 ∧ J (38 + 2 * o.toNat) 2 ≤ 4 := (hS o ho6.1 ho6.2).2.2.1
  have s4o : 0 ≤ J (38 + 2 * o.toNat) 3 ∧ J (38 + 2 * o.toNat) 3 ≤ 60 := (hS o ho6.1 ho6.2).2.2.2.1
  have s6o := (hS o ho6.1 ho6.2).2.2.2.2.2 hho
  have s7o : J 84 o = J (38 + 2 * o.toNat) 3 := s6o.1.symm
  have s8o : ∀ i, 0 ≤ i → i < J (38 + 2 * o.toNat) 3 → M (39 + 2 * o.toNat) i = M 85 (60 * o + i) := s6o.2.1
  show zW _ _ _ _ [some (.ref 0), some (zi s), some (zi i), some (zi o), some (zi j), some (zi n), none, none] _ _ _ _ _
  refine z_iload1 gi_140_0 ?_
  refine z_cS1 gi_140_1 (Nat.le_of_ble_eq_true rfl) gc_143_I ?_
  refine z_iload0 gi_143_0 ?_
  refine z_if_ltF gi_143_1 (by omega) (by omega) ?_
  refine z_iload0 gi_143_4 ?_
  refine z_pushJ gp_143_5 ?_
  refine z_icmp_geF gi_143_7 (by omega) zr_6 (by omega) ?_
  refine z_pushJ gp_143_10 ?_
  refine z_goto gi_143_11 ?_
  refine z_bret1 gi_143_15 gr_143 ?_
  show zW _ _ _ _ _ _ _ _ _ _
  refine z_if_eqF gi_140_4 zr_1 (by decide) ?_
  refine z_iload3 gi_140_7 ?_
  refine z_cS1 gi_140_8 (Nat.le_of_ble_eq_true rfl) gc_143_I ?_
  refine z_iload0 gi_143_0 ?_
  refine z_if_ltF gi_143_1 (by omega) (by omega) ?_
  refine z_iload0 gi_143_4 ?_
  refine z_pushJ gp_143_5 ?_
  refine z_icmp_geF gi_143_7 (by omega) zr_6 (by omega) ?_
  refine z_pushJ gp_143_10 ?_
  refine z_goto gi_143_11 ?_
  refine z_bret1 gi_143_15 gr_143 ?_
  show zW _ _ _ _ _ _ _ _ _ _
  refine z_if_neT gi_140_11 zr_1 (by decide) ?_
  refine z_aload0 gi_140_16 ?_
  refine z_getR (r := 37) gi_140_17 gk_0 (hR _ rm_0_11) ?_
  refine z_iload1 gi_140_20 ?_
  refine z_aald (r := 38 + 2 * s.toNat) gi_140_21 rfl (by decide) (by omega) (rr_shelf hR (by omega)) ?_
  refine z_astore (ls1 := [some (.ref 0), some (zi s), some (zi i), some (zi o), some (zi j), some (zi n), some (.ref (38 + 2 * s.toNat)), none]) gi_140_22 rfl ?_
  refine z_aload0 gi_140_24 ?_
  refine z_getR (r := 37) gi_140_25 gk_0 (hR _ rm_0_11) ?_
  refine z_iload3 gi_140_28 ?_
  refine z_aald (r := 38 + 2 * o.toNat) gi_140_29 rfl (by decide) (by omega) (rr_shelf hR (by omega)) ?_
  refine z_astore (ls1 := [some (.ref 0), some (zi s), some (zi i), some (zi o), some (zi j), some (zi n), some (.ref (38 + 2 * s.toNat)), some (.ref (38 + 2 * o.toNat))]) gi_140_30 rfl ?_
  refine z_aload6 gi_140_32 ?_
  refine z_callVi (As := []) (le := [some _]) gi_140_34 rfl (zk_shelf (by omega)) (Nat.le_of_ble_eq_true rfl) (Nat.le_of_ble_eq_true rfl) rfl ?_
  refine z_aload0 gi_62_0 ?_
  refine z_getI (v := 0) gi_62_1 (zk_shelf (by omega)) (hh) ?_
  refine z_if_neF gi_62_4 zr_0 (by decide) ?_
  refine z_pushJ gp_62_7 ?_
  refine z_goto gi_62_8 ?_
  refine z_bret1 gi_62_12 gr_62 ?_
  show zW _ _ _ _ _ _ _ _ _ _
  refine z_if_neT gi_140_37 zr_1 (by decide) ?_
  refine z_pushJ gp_140_48 ?_
  refine z_iret gi_140_50 gr_140 ?_
  refine ⟨_, rfl, ?_⟩
  show zW _ _ _ _ [some (.ref 50), some (zi s), some (zi i), some (zi o), some (zi j), some (zi n), none] _ _ _ _ _
  refine z_iload1 gi_254_0 ?_
  refine z_cS1 gi_254_1 (Nat.le_of_ble_eq_true rfl) gc_248_I ?_
  refine z_iload0 gi_248_0 ?_
  refine z_pushJ gp_248_1 ?_
  refine z_pushJ gp_248_2 ?_
  refine z_cS3 gi_248_3 (Nat.le_of_ble_eq_true rfl) gc_148_III ?_
  refine z_iload0 gi_148_0 ?_
  refine z_iload1 gi_148_1 ?_
  refine z_icmp_ltF gi_148_2 (by omega) zr_0 (by omega) ?_
  refine z_iload0 gi_148_5 ?_
  refine z_iload2 gi_148_6 ?_
  refine z_icmp_gtF gi_148_7 (by omega) zr_5 (by omega) ?_
  refine z_pushJ gp_148_10 ?_
  refine z_goto gi_148_11 ?_
  refine z_bret1 gi_148_15 gr_148 ?_
  show zW _ _ _ _ _ _ _ _ _ _
  refine z_bret1 gi_248_6 gr_248 ?_
  show zW _ _ _ _ _ _ _ _ _ _
  refine z_if_eqF gi_254_4 zr_1 (by decide) ?_
  refine z_iload3 gi_254_7 ?_
  refine z_cS1 gi_254_8 (Nat.le_of_ble_eq_true rfl) gc_248_I ?_
  refine z_iload0 gi_248_0 ?_
  refine z_pushJ gp_248_1 ?_
  refine z_pushJ gp_248_2 ?_
  refine z_cS3 gi_248_3 (Nat.le_of_ble_eq_true rfl) gc_148_III ?_
  refine z_iload0 gi_148_0 ?_
  refine z_iload1 gi_148_1 ?_
  refine z_icmp_ltF gi_148_2 (by omega) zr_0 (by omega) ?_
  refine z_iload0 gi_148_5 ?_
  refine z_iload2 gi_148_6 ?_
  refine z_icmp_gtF gi_148_7 (by omega) zr_5 (by omega) ?_
  refine z_pushJ gp_148_10 ?_
  refine z_goto gi_148_11 ?_
  refine z_bret1 gi_148_15 gr_148 ?_
  show zW _ _ _ _ _ _ _ _ _ _
  refine z_bret1 gi_248_6 gr_248 ?_
  show zW _ _ _ _ _ _ _ _ _ _
  refine z_if_neT gi_254_11 zr_1 (by decide) ?_
  refine z_aload0 gi_254_16 ?_
  refine z_getR (r := 83) gi_254_17 gk_50 (hRr _ rm_50_58 (by decide)) ?_
  refine z_iload1 gi_254_20 ?_
  refine z_iald (v := (-1)) gi_254_21 gk_83 (by decide) (by omega) (e83) ?_
  refine z_pushJ gp_254_22 ?_
  refine z_icmp_eqT gi_254_23 zrn_1 zrn_1 (by decide) ?_
  refine z_pushJ gp_254_36 ?_
  refine z_iret gi_254_38 gr_254 ?_
  refine ⟨?_, ?_⟩
  · first | rfl | exact congrArg (fun v => some (zi v)) (by omega) | (exfalso; omega)
  · exact hr
theorem st_shift_10 {X : Nat × (Nat → Int32)} {d : Nat} {J M : zA} {R : zR} {s i o j n : Int} (hr : Rel X J M R) (hs : -2147483648 ≤ s ∧ s < 2147483648) (hi : -2147483648 ≤ i ∧ i < 2147483648) (ho : -2147483648 ≤ o ∧ o < 2147483648) (hj : -2147483648 ≤ j ∧ j < 2147483648) (hn : -2147483648 ≤ n ∧ n < 2147483648) (hs6 : 0 ≤ s ∧ s < 6) (hh : J (38 + 2 * s.toNat) 0 = 1) (ho6 : 0 ≤ o ∧ o < 6) (hho : J (38 + 2 * o.toNat) 0 = 0) : zW X (d + 20) 140 0 (gEn 140 [(.ref 0), (zi s), (zi i), (zi o), (zi j), (zi n)]) [] J M R (stP X (d + 20) 254 [(zi s), (zi i), (zi o), (zi j), (zi n)]) := by
  have hr0 := hr
  obtain ⟨hR, hG, hY, hD, hP, hC, hAc, hS, hTp, hX, hW⟩ := hr0
  have hRr : zRoR R := zRoR_of hR
  have hA0 := hAc
  obtain ⟨a1, a2, a3, a4, a5, a6⟩ := hA0
  have e83 : J 83 s = J (38 + 2 * s.toNat) 1 := (hS s hs6.1 hs6.2).1.symm.trans (cH_1 hh)
  have s3 : 0 ≤ J (38 + 2 * s.toNat) 2 ∧ J (38 + 2 * s.toNat) 2 ≤ 4 := (hS s hs6.1 hs6.2).2.2.1
  have s4 : 0 ≤ J (38 + 2 * s.toNat) 3 ∧ J (38 + 2 * s.toNat) 3 ≤ 60 := (hS s hs6.1 hs6.2).2.2.2.1
  have s5 : 0 ≤ J (38 + 2 * s.toNat) 1 ∧ J (38 + 2 * s.toNat) 1 < J 34 1 := (hS s hs6.1 hs6.2).2.2.2.2.1 hh
  have e83o : J 83 o = -1 := (hS o ho6.1 ho6.2).1.symm.trans (cH_0 hho)
  have s3o : 0 ≤ J (38 + 2 * o.toNat) 2 ∧ J (38 + 2 * o.toNat) 2 ≤ 4 := (hS o ho6.1 ho6.2).2.2.1
  have s4o : 0 ≤ J (38 + 2 * o.toNat) 3 ∧ J (38 + 2 * o.toNat) 3 ≤ 60 := (hS o ho6.1 ho6.2).2.2.2.1
  show zW _ _ _ _ [some (.ref 0), some (zi s), some (zi i), some (zi o), some (zi j), some (zi n), none, none] _ _ _ _ _
  refine z_iload1 gi_140_0 ?_
  refine z_cS1 gi_140_1 (Nat.le_of_ble_eq_true rfl) gc_143_I ?_
  refine z_iload0 gi_143_0 ?_
  refine z_if_ltF gi_143_1 (by omega) (by omega) ?_
  refine z_iload0 gi_143_4 ?_
  refine z_pushJ gp_143_5 ?_
  refine z_icmp_geF gi_143_7 (by omega) zr_6 (by omega) ?_
  refine z_pushJ gp_143_10 ?_
  refine z_goto gi_143_11 ?_
  refine z_bret1 gi_143_15 gr_143 ?_
  show zW _ _ _ _ _ _ _ _ _ _
  refine z_if_eqF gi_140_4 zr_1 (by decide) ?_
  refine z_iload3 gi_140_7 ?_
  refine z_cS1 gi_140_8 (Nat.le_of_ble_eq_true rfl) gc_143_I ?_
  refine z_iload0 gi_143_0 ?_
  refine z_if_ltF gi_143_1 (by omega) (by omega) ?_
  refine z_iload0 gi_143_4 ?_
  refine z_pushJ gp_143_5 ?_
  refine z_icmp_geF gi_143_7 (by omega) zr_6 (by omega) ?_
  refine z_pushJ gp_143_10 ?_
  refine z_goto gi_143_11 ?_
  refine z_bret1 gi_143_15 gr_143 ?_
  show zW _ _ _ _ _ _ _ _ _ _
  refine z_if_neT gi_140_11 zr_1 (by decide) ?_
  refine z_aload0 gi_140_16 ?_
  refine z_getR (r := 37) gi_140_17 gk_0 (hR _ rm_0_11) ?_
  refine z_iload1 gi_140_20 ?_
  refine z_aald (r := 38 + 2 * s.toNat) gi_140_21 rfl (by decide) (by omega) (rr_shelf hR (by omega)) ?_
  refine z_astore (ls1 := [some (.ref 0), some (zi s), some (zi i), some (zi o), some (zi j), some (zi n), some (.ref (38 + 2 * s.toNat)), none]) gi_140_22 rfl ?_
  refine z_aload0 gi_140_24 ?_
  refine z_getR (r := 37) gi_140_25 gk_0 (hR _ rm_0_11) ?_
  refine z_iload3 gi_140_28 ?_
  refine z_aald (r := 38 + 2 * o.toNat) gi_140_29 rfl (by decide) (by omega) (rr_shelf hR (by omega)) ?_
  refine z_astore (ls1 := [some (.ref 0), some (zi s), some (zi i), some (zi o), some (zi j), some (zi n), some (.ref (38 + 2 * s.toNat)), some (.ref (38 + 2 * o.toNat))]) gi_140_30 rfl ?_
  refine z_aload6 gi_140_32 ?_
  refine z_callVi (As := []) (le := [some _]) gi_140_34 rfl (zk_shelf (by omega)) (Nat.le_of_ble_eq_true rfl) (Nat.le_of_ble_eq_true rfl) rfl ?_
  refine z_aload0 gi_62_0 ?_
  refine z_getI (v := 1) gi_62_1 (zk_shelf (by omega)) (hh) ?_
  refine z_if_neT gi_62_4 zr_1 (by decide) ?_
  refine z_pushJ gp_62_11 ?_
  refine z_bret0 gi_62_12 gr_62 ?_
  show zW _ _ _ _ _ _ _ _ _ _
  refine z_if_neF gi_140_37 zr_0 (by decide) ?_
  refine z_aload7 gi_140_40 ?_
  refine z_callVi (As := []) (le := [some _]) gi_140_42 rfl (zk_shelf (by omega)) (Nat.le_of_ble_eq_true rfl) (Nat.le_of_ble_eq_true rfl) rfl ?_
  refine z_aload0 gi_62_0 ?_
  refine z_getI (v := 0) gi_62_1 (zk_shelf (by omega)) (hho) ?_
  refine z_if_neF gi_62_4 zr_0 (by decide) ?_
  refine z_pushJ gp_62_7 ?_
  refine z_goto gi_62_8 ?_
  refine z_bret1 gi_62_12 gr_62 ?_
  show zW _ _ _ _ _ _ _ _ _ _
  refine z_if_eqF gi_140_45 zr_1 (by decide) ?_
  refine z_pushJ gp_140_48 ?_
  refine z_iret gi_140_50 gr_140 ?_
  refine ⟨_, rfl, ?_⟩
  show zW _ _ _ _ [some (.ref 50), some (zi s), some (zi i), some (zi o), some (zi j), some (zi n), none] _ _ _ _ _
  refine z_iload1 gi_254_0 ?_
  refine z_cS1 gi_254_1 (Nat.le_of_ble_eq_true rfl) gc_248_I ?_
  refine z_iload0 gi_248_0 ?_
  refine z_pushJ gp_248_1 ?_
  refine z_pushJ gp_248_2 ?_
  refine z_cS3 gi_248_3 (Nat.le_of_ble_eq_true rfl) gc_148_III ?_
  refine z_iload0 gi_148_0 ?_
  refine z_iload1 gi_148_1 ?_
  refine z_icmp_ltF gi_148_2 (by omega) zr_0 (by omega) ?_
  refine z_iload0 gi_148_5 ?_
  refine z_iload2 gi_148_6 ?_
  refine z_icmp_gtF gi_148_7 (by omega) zr_5 (by omega) ?_
  refine z_pushJ gp_148_10 ?_
  refine z_goto gi_148_11 ?_
  refine z_bret1 gi_148_15 gr_148 ?_
  show zW _ _ _ _ _ _ _ _ _ _
  refine z_bret1 gi_248_6 gr_248 ?_
  show zW _ _ _ _ _ _ _ _ _ _
  refine z_if_eqF gi_254_4 zr_1 (by decide) ?_
  refine z_iload3 gi_254_7 ?_
  refine z_cS1 gi_254_8 (Nat.le_of_ble_eq_true rfl) gc_248_I ?_
  refine z_iload0 gi_248_0 ?_
  refine z_pushJ gp_248_1 ?_
  refine z_pushJ gp_248_2 ?_
  refine z_cS3 gi_248_3 (Nat.le_of_ble_eq_true rfl) gc_148_III ?_
  refine z_iload0 gi_148_0 ?_
  refine z_iload1 gi_148_1 ?_
  refine z_icmp_ltF gi_148_2 (by omega) zr_0 (by omega) ?_
  refine z_iload0 gi_148_5 ?_
  refine z_iload2 gi_148_6 ?_
  refine z_icmp_gtF gi_148_7 (by omega) zr_5 (by omega) ?_
  refine z_pushJ gp_148_10 ?_
  refine z_goto gi_148_11 ?_
  refine z_bret1 gi_148_15 gr_148 ?_
  show zW _ _ _ _ _ _ _ _ _ _
  refine z_bret1 gi_248_6 gr_248 ?_
  show zW _ _ _ _ _ _ _ _ _ _
  refine z_if_neT gi_254_11 zr_1 (by decide) ?_
  refine z_aload0 gi_254_16 ?_
  refine z_getR (r := 83) gi_254_17 gk_50 (hRr _ rm_50_58 (by decide)) ?_
  refine z_iload1 gi_254_20 ?_
  refine z_iald (v := J (38 + 2 * s.toNat) 1) gi_254_21 gk_83 (by decide) (by omega) (e83) ?_
  refine z_pushJ gp_254_22 ?_
  refine z_icmp_eq gi_254_23 (by omega) zrn_1 (fun h1 => ?_) (fun h1 => ?_)
  · refine z_pushJ gp_254_36 ?_
    refine z_iret gi_254_38 gr_254 ?_
    refine ⟨?_, ?_⟩
    · first | rfl | exact congrArg (fun v => some (zi v)) (by omega) | (exfalso; omega)
    · exact hr
  · refine z_aload0 gi_254_26 ?_
    refine z_getR (r := 83) gi_254_27 gk_50 (hRr _ rm_50_58 (by decide)) ?_
    refine z_iload3 gi_254_30 ?_
    refine z_iald (v := (-1)) gi_254_31 gk_83 (by decide) (by omega) (e83o) ?_
    refine z_pushJ gp_254_32 ?_
    refine z_icmp_neF gi_254_33 zrn_1 zrn_1 (by decide) ?_
    refine z_pushJ gp_254_36 ?_
    refine z_iret gi_254_38 gr_254 ?_
    refine ⟨?_, ?_⟩
    · first | rfl | exact congrArg (fun v => some (zi v)) (by omega) | (exfalso; omega)
    · exact hr
theorem st_shift_11 {X : Nat × (Nat → Int32)} {d : Nat} {J M : zA} {R : zR} {s i o j n : Int} (hr : Rel X J M R) (hs : -2147483648 ≤ s ∧ s < 2147483648) (hi : -2147483648 ≤ i ∧ i < 2147483648) (ho : -2147483648 ≤ o ∧ o < 2147483648) (hj : -2147483648 ≤ j ∧ j < 2147483648) (hn : -2147483648 ≤ n ∧ n < 2147483648) (hs6 : 0 ≤ s ∧ s < 6) (hh : J (38 + 2 * s.toNat) 0 = 1) (ho6 : 0 ≤ o ∧ o < 6) (hho : J (38 + 2 * o.toNat) 0 = 1) : zW X (d + 20) 140 0 (gEn 140 [(.ref 0), (zi s), (zi i), (zi o), (zi j), (zi n)]) [] J M R (stP X (d + 20) 254 [(zi s), (zi i), (zi o), (zi j), (zi n)]) := by
  have hr0 := hr
  obtain ⟨hR, hG, hY, hD, hP, hC, hAc, hS, hTp, hX, hW⟩ := hr0
  have hRr : zRoR R := zRoR_of hR
  have hA0 := hAc
  obtain ⟨a1, a2, a3, a4, a5, a6⟩ := hA0
  have e83 : J 83 s = J (38 + 2 * s.toNat) 1 := (hS s hs6.1 hs6.2).1.symm.trans (cH_1 hh)
  have s3 : 0 ≤ J (38 + 2 * s.toNat) 2 ∧ J (38 + 2 * s.toNat) 2 ≤ 4 := (hS s hs6.1 hs6.2).2.2.1
  have s4 : 0 ≤ J (38 + 2 * s.toNat) 3 ∧ J (38 + 2 * s.toNat) 3 ≤ 60 := (hS s hs6.1 hs6.2).2.2.2.1
  have s5 : 0 ≤ J (38 + 2 * s.toNat) 1 ∧ J (38 + 2 * s.toNat) 1 < J 34 1 := (hS s hs6.1 hs6.2).2.2.2.2.1 hh
  have e83o : J 83 o = J (38 + 2 * o.toNat) 1 := (hS o ho6.1 ho6.2).1.symm.trans (cH_1 hho)
  have s3o : 0 ≤ J (38 + 2 * o.toNat) 2 ∧ J (38 + 2 * o.toNat) 2 ≤ 4 := (hS o ho6.1 ho6.2).2.2.1
  have s4o : 0 ≤ J (38 + 2 * o.toNat) 3 ∧ J (38 + 2 * o.toNat) 3 ≤ 60 := (hS o ho6.1 ho6.2).2.2.2.1
  have s5o : 0 ≤ J (38 + 2 * o.toNat) 1 ∧ J (38 + 2 * o.toNat) 1 < J 34 1 := (hS o ho6.1 ho6.2).2.2.2.2.1 hho
  show zW _ _ _ _ [some (.ref 0), some (zi s), some (zi i), some (zi o), some (zi j), some (zi n), none, none] _ _ _ _ _
  refine z_iload1 gi_140_0 ?_
  refine z_cS1 gi_140_1 (Nat.le_of_ble_eq_true rfl) gc_143_I ?_
  refine z_iload0 gi_143_0 ?_
  refine z_if_ltF gi_143_1 (by omega) (by omega) ?_
  refine z_iload0 gi_143_4 ?_
  refine z_pushJ gp_143_5 ?_
  refine z_icmp_geF gi_143_7 (by omega) zr_6 (by omega) ?_
  refine z_pushJ gp_143_10 ?_
  refine z_goto gi_143_11 ?_
  refine z_bret1 gi_143_15 gr_143 ?_
  show zW _ _ _ _ _ _ _ _ _ _
  refine z_if_eqF gi_140_4 zr_1 (by decide) ?_
  refine z_iload3 gi_140_7 ?_
  refine z_cS1 gi_140_8 (Nat.le_of_ble_eq_true rfl) gc_143_I ?_
  refine z_iload0 gi_143_0 ?_
  refine z_if_ltF gi_143_1 (by omega) (by omega) ?_
  refine z_iload0 gi_143_4 ?_
  refine z_pushJ gp_143_5 ?_
  refine z_icmp_geF gi_143_7 (by omega) zr_6 (by omega) ?_
  refine z_pushJ gp_143_10 ?_
  refine z_goto gi_143_11 ?_
  refine z_bret1 gi_143_15 gr_143 ?_
  show zW _ _ _ _ _ _ _ _ _ _
  refine z_if_neT gi_140_11 zr_1 (by decide) ?_
  refine z_aload0 gi_140_16 ?_
  refine z_getR (r := 37) gi_140_17 gk_0 (hR _ rm_0_11) ?_
  refine z_iload1 gi_140_20 ?_
  refine z_aald (r := 38 + 2 * s.toNat) gi_140_21 rfl (by decide) (by omega) (rr_shelf hR (by omega)) ?_
  refine z_astore (ls1 := [some (.ref 0), some (zi s), some (zi i), some (zi o), some (zi j), some (zi n), some (.ref (38 + 2 * s.toNat)), none]) gi_140_22 rfl ?_
  refine z_aload0 gi_140_24 ?_
  refine z_getR (r := 37) gi_140_25 gk_0 (hR _ rm_0_11) ?_
  refine z_iload3 gi_140_28 ?_
  refine z_aald (r := 38 + 2 * o.toNat) gi_140_29 rfl (by decide) (by omega) (rr_shelf hR (by omega)) ?_
  refine z_astore (ls1 := [some (.ref 0), some (zi s), some (zi i), some (zi o), some (zi j), some (zi n), some (.ref (38 + 2 * s.toNat)), some (.ref (38 + 2 * o.toNat))]) gi_140_30 rfl ?_
  refine z_aload6 gi_140_32 ?_
  refine z_callVi (As := []) (le := [some _]) gi_140_34 rfl (zk_shelf (by omega)) (Nat.le_of_ble_eq_true rfl) (Nat.le_of_ble_eq_true rfl) rfl ?_
  refine z_aload0 gi_62_0 ?_
  refine z_getI (v := 1) gi_62_1 (zk_shelf (by omega)) (hh) ?_
  refine z_if_neT gi_62_4 zr_1 (by decide) ?_
  refine z_pushJ gp_62_11 ?_
  refine z_bret0 gi_62_12 gr_62 ?_
  show zW _ _ _ _ _ _ _ _ _ _
  refine z_if_neF gi_140_37 zr_0 (by decide) ?_
  refine z_aload7 gi_140_40 ?_
  refine z_callVi (As := []) (le := [some _]) gi_140_42 rfl (zk_shelf (by omega)) (Nat.le_of_ble_eq_true rfl) (Nat.le_of_ble_eq_true rfl) rfl ?_
  refine z_aload0 gi_62_0 ?_
  refine z_getI (v := 1) gi_62_1 (zk_shelf (by omega)) (hho) ?_
  refine z_if_neT gi_62_4 zr_1 (by decide) ?_
  refine z_pushJ gp_62_11 ?_
  refine z_bret0 gi_62_12 gr_62 ?_
  show zW _ _ _ _ _ _ _ _ _ _
  refine z_if_eqT gi_140_45 zr_0 (by decide) ?_
  refine z_aload6 gi_140_51 ?_
  refine z_aload7 gi_140_53 ?_
  refine z_callVi (As := [_]) (le := [some _, some _]) gi_140_55 rfl (zk_shelf (by omega)) (Nat.le_of_ble_eq_true rfl) (Nat.le_of_ble_eq_true rfl) rfl ?_
  refine z_aload0 gi_65_0 ?_
  refine z_getI (v := 1) gi_65_1 (zk_shelf (by omega)) (hh) ?_
  refine z_pushJ gp_65_4 ?_
  refine z_icmp_neT gi_65_5 zr_1 zr_2 (by decide) ?_
  refine z_pushJ gp_65_31 ?_
  refine z_bret0 gi_65_32 gr_65 ?_
  show zW _ _ _ _ _ _ _ _ _ _
  refine z_if_neF gi_140_58 zr_0 (by decide) ?_
  refine z_pushJ gp_140_61 ?_
  refine z_iret gi_140_63 gr_140 ?_
  refine ⟨_, rfl, ?_⟩
  show zW _ _ _ _ [some (.ref 50), some (zi s), some (zi i), some (zi o), some (zi j), some (zi n), none] _ _ _ _ _
  refine z_iload1 gi_254_0 ?_
  refine z_cS1 gi_254_1 (Nat.le_of_ble_eq_true rfl) gc_248_I ?_
  refine z_iload0 gi_248_0 ?_
  refine z_pushJ gp_248_1 ?_
  refine z_pushJ gp_248_2 ?_
  refine z_cS3 gi_248_3 (Nat.le_of_ble_eq_true rfl) gc_148_III ?_
  refine z_iload0 gi_148_0 ?_
  refine z_iload1 gi_148_1 ?_
  refine z_icmp_ltF gi_148_2 (by omega) zr_0 (by omega) ?_
  refine z_iload0 gi_148_5 ?_
  refine z_iload2 gi_148_6 ?_
  refine z_icmp_gtF gi_148_7 (by omega) zr_5 (by omega) ?_
  refine z_pushJ gp_148_10 ?_
  refine z_goto gi_148_11 ?_
  refine z_bret1 gi_148_15 gr_148 ?_
  show zW _ _ _ _ _ _ _ _ _ _
  refine z_bret1 gi_248_6 gr_248 ?_
  show zW _ _ _ _ _ _ _ _ _ _
  refine z_if_eqF gi_254_4 zr_1 (by decide) ?_
  refine z_iload3 gi_254_7 ?_
  refine z_cS1 gi_254_8 (Nat.le_of_ble_eq_true rfl) gc_248_I ?_
  refine z_iload0 gi_248_0 ?_
  refine z_pushJ gp_248_1 ?_
  refine z_pushJ gp_248_2 ?_
  refine z_cS3 gi_248_3 (Nat.le_of_ble_eq_true rfl) gc_148_III ?_
  refine z_iload0 gi_148_0 ?_
  refine z_iload1 gi_148_1 ?_
  refine z_icmp_ltF gi_148_2 (by omega) zr_0 (by omega) ?_
  refine z_iload0 gi_148_5 ?_
  refine z_iload2 gi_148_6 ?_
  refine z_icmp_gtF gi_148_7 (by omega) zr_5 (by omega) ?_
  refine z_pushJ gp_148_10 ?_
  refine z_goto gi_148_11 ?_
  refine z_bret1 gi_148_15 gr_148 ?_
  show zW _ _ _ _ _ _ _ _ _ _
  refine z_bret1 gi_248_6 gr_248 ?_
  show zW _ _ _ _ _ _ _ _ _ _
  refine z_if_neT gi_254_11 zr_1 (by decide) ?_
  refine z_aload0 gi_254_16 ?_
  refine z_getR (r := 83) gi_254_17 gk_50 (hRr _ rm_50_58 (by decide)) ?_
  refine z_iload1 gi_254_20 ?_
  refine z_iald (v := J (38 + 2 * s.toNat) 1) gi_254_21 gk_83 (by decide) (by omega) (e83) ?_
  refine z_pushJ gp_254_22 ?_
  refine z_icmp_eq gi_254_23 (by omega) zrn_1 (fun h1 => ?_) (fun h1 => ?_)
  · refine z_pushJ gp_254_36 ?_
    refine z_iret gi_254_38 gr_254 ?_
    refine ⟨?_, ?_⟩
    · first | rfl | exact congrArg (fun v => some (zi v)) (by omega) | (exfalso; omega)
    · exact hr
  · refine z_aload0 gi_254_26 ?_
    refine z_getR (r := 83) gi_254_27 gk_50 (hRr _ rm_50_58 (by decide)) ?_
    refine z_iload3 gi_254_30 ?_
    refine z_iald (v := J (38 + 2 * o.toNat) 1) gi_254_31 gk_83 (by decide) (by omega) (e83o) ?_
    refine z_pushJ gp_254_32 ?_
    refine z_icmp_ne gi_254_33 (by omega) zrn_1 (fun h2 => ?_) (fun h2 => ?_)
    · refine z_aload0 gi_254_39 ?_
      refine z_getR (r := 83) gi_254_40 gk_50 (hRr _ rm_50_58 (by decide)) ?_
      refine z_iload1 gi_254_43 ?_
      refine z_iald (v := J (38 + 2 * s.toNat) 1) gi_254_44 gk_83 (by decide) (by omega) (e83) ?_
      refine z_if_ge gi_254_45 (by omega) (fun h3 => ?_) (fun h3 => ?_)
      · refine z_pushJ gp_254_63 ?_
        refine z_iret gi_254_65 gr_254 ?_
        refine ⟨?_, ?_⟩
        · first | rfl | exact congrArg (fun v => some (zi v)) (by omega) | (exfalso; omega)
        · exact hr
      · refine z_aload0 gi_254_48 ?_
        refine z_getR (r := 83) gi_254_49 gk_50 (hRr _ rm_50_58 (by decide)) ?_
        refine z_iload1 gi_254_52 ?_
        refine z_iald (v := J (38 + 2 * s.toNat) 1) gi_254_53 gk_83 (by decide) (by omega) (e83) ?_
        refine z_aload0 gi_254_54 ?_
        refine z_getR (r := 83) gi_254_55 gk_50 (hRr _ rm_50_58 (by decide)) ?_
        refine z_iload3 gi_254_58 ?_
        refine z_iald (v := J (38 + 2 * o.toNat) 1) gi_254_59 gk_83 (by decide) (by omega) (e83o) ?_
        refine z_icmp_eq gi_254_60 (by omega) (by omega) (fun h4 => ?_) (fun h4 => ?_)
        · refine z_iload5 gi_254_66 ?_
          refine z_if_lt gi_254_68 (by omega) (fun h5 => ?_) (fun h5 => ?_)
          · refine z_pushJ gp_254_107 ?_
            refine z_iret gi_254_109 gr_254 ?_
            refine ⟨?_, ?_⟩
            · first | rfl | exact congrArg (fun v => some (zi v)) (by omega) | (exfalso; omega)
            · exact hr
          · refine z_iload2 gi_254_71 ?_
            refine z_if_lt gi_254_72 (by omega) (fun h6 => ?_) (fun h6 => ?_)
            · refine z_pushJ gp_254_107 ?_
              refine z_iret gi_254_109 gr_254 ?_
              refine ⟨?_, ?_⟩
              · first | rfl | exact congrArg (fun v => some (zi v)) (by omega) | (exfalso; omega)
              · exact hr
            · refine z_iload4 gi_254_75 ?_
              refine z_if_lt gi_254_77 (by omega) (fun h7 => ?_) (fun h7 => ?_)
              · refine z_pushJ gp_254_107 ?_
                refine z_iret gi_254_109 gr_254 ?_
                refine ⟨?_, ?_⟩
                · first | rfl | exact congrArg (fun v => some (zi v)) (by omega) | (exfalso; omega)
                · exact hr
              · refine z_iload2 gi_254_80 ?_
                refine z_aload0 gi_254_81 ?_
                refine z_getR (r := 84) gi_254_82 gk_50 (hRr _ rm_50_59 (by decide)) ?_
                refine z_iload1 gi_254_85 ?_
                refine z_iald (v := J 84 s) gi_254_86 gk_84 (by decide) (by omega) (rfl) ?_
                refine z_iload5 gi_254_87 ?_
                refine z_isub (e := (J 84 s) - n) gi_254_89 rfl ?_
                refine z_icmp_gt gi_254_90 (by omega) (by omega) (fun h8 => ?_) (fun h8 => ?_)
                · refine z_pushJ gp_254_107 ?_
                  refine z_iret gi_254_109 gr_254 ?_
                  refine ⟨?_, ?_⟩
                  · first | rfl | exact congrArg (fun v => some (zi v)) (by omega) | (exfalso; omega)
                  · exact hr
                · refine z_iload4 gi_254_93 ?_
                  refine z_aload0 gi_254_95 ?_
                  refine z_getR (r := 84) gi_254_96 gk_50 (hRr _ rm_50_59 (by decide)) ?_
                  refine z_iload3 gi_254_99 ?_
                  refine z_iald (v := J 84 o) gi_254_100 gk_84 (by decide) (by omega) (rfl) ?_
                  refine z_iload5 gi_254_101 ?_
                  refine z_isub (e := (J 84 o) - n) gi_254_103 rfl ?_
                  refine z_icmp_le gi_254_104 (by omega) (by omega) (fun h9 => ?_) (fun h9 => ?_)
                  · refine z_pushJ gp_254_110 ?_
                    refine z_istore (ls1 := [some (.ref 50), some (zi s), some (zi i), some (zi o), some (zi j), some (zi n), some (zi 0)]) gi_254_111 rfl ?_
                    show zW _ _ _ _ [some (.ref 50), some (zi s), some (zi i), some (zi o), some (zi j), some (zi n), some (zi 0)] [] _ _ _ _
                    refine shift1_k hRr (by omega) (by omega) ?_
                    refine z_pushJ gp_254_147 ?_
                    refine z_istore (ls1 := [some (.ref 50), some (zi s), some (zi i), some (zi o), some (zi j), some (zi n), some (zi 0)]) gi_254_148 rfl ?_
                    show zW _ _ _ _ [some (.ref 50), some (zi s), some (zi i), some (zi o), some (zi j), some (zi n), some (zi 0)] [] _ _ _ _
                    refine shift2_k hRr (by omega) (by omega) ?_
                    refine z_iload5 gi_254_185 ?_
                    refine z_iret gi_254_187 gr_254 ?_
                    refine ⟨?_, ?_⟩
                    · exfalso
                      omega
                    · exfalso
                      omega
                  · refine z_pushJ gp_254_107 ?_
                    refine z_iret gi_254_109 gr_254 ?_
                    refine ⟨?_, ?_⟩
                    · first | rfl | exact congrArg (fun v => some (zi v)) (by omega) | (exfalso; omega)
                    · exact hr
        · refine z_pushJ gp_254_63 ?_
          refine z_iret gi_254_65 gr_254 ?_
          refine ⟨?_, ?_⟩
          · first | rfl | exact congrArg (fun v => some (zi v)) (by omega) | (exfalso; omega)
          · exact hr
    · refine z_pushJ gp_254_36 ?_
      refine z_iret gi_254_38 gr_254 ?_
      refine ⟨?_, ?_⟩
      · first | rfl | exact congrArg (fun v => some (zi v)) (by omega) | (exfalso; omega)
      · exact hr
theorem st_shift_12 {X : Nat × (Nat → Int32)} {d : Nat} {J M : zA} {R : zR} {s i o j n : Int} (hr : Rel X J M R) (hs : -2147483648 ≤ s ∧ s < 2147483648) (hi : -2147483648 ≤ i ∧ i < 2147483648) (ho : -2147483648 ≤ o ∧ o < 2147483648) (hj : -2147483648 ≤ j ∧ j < 2147483648) (hn : -2147483648 ≤ n ∧ n < 2147483648) (hs6 : 0 ≤ s ∧ s < 6) (hh : J (38 + 2 * s.toNat) 0 = 1) (ho6 : 0 ≤ o ∧ o < 6) (hho : J (38 + 2 * o.toNat) 0 = 2) : zW X (d + 20) 140 0 (gEn 140 [(.ref 0), (zi s), (zi i), (zi o), (zi j), (zi n)]) [] J M R (stP X (d + 20) 254 [(zi s), (zi i), (zi o), (zi j), (zi n)]) := by
  have hr0 := hr
  obtain ⟨hR, hG, hY, hD, hP, hC, hAc, hS, hTp, hX, hW⟩ := hr0
  have hRr : zRoR R := zRoR_of hR
  have hA0 := hAc
  obtain ⟨a1, a2, a3, a4, a5, a6⟩ := hA0
  have e83 : J 83 s = J (38 + 2 * s.toNat) 1 := (hS s hs6.1 hs6.2).1.symm.trans (cH_1 hh)
  have s3 : 0 ≤ J (38 + 2 * s.toNat) 2 ∧ J (38 + 2 * s.toNat) 2 ≤ 4 := (hS s hs6.1 hs6.2).2.2.1
  have s4 : 0 ≤ J (38 + 2 * s.toNat) 3 ∧ J (38 + 2 * s.toNat) 3 ≤ 60 := (hS s hs6.1 hs6.2).2.2.2.1
  have s5 : 0 ≤ J (38 + 2 * s.toNat) 1 ∧ J (38 + 2 * s.toNat) 1 < J 34 1 := (hS s hs6.1 hs6.2).2.2.2.2.1 hh
  have e83o : J 83 o = -2 - J (38 + 2 * o.toNat) 2 := (hS o ho6.1 ho6.2).1.symm.trans (cH_2 hho)
  have s3o : 0 ≤ J (38 + 2 * o.toNat) 2 ∧ J (38 + 2 * o.toNat) 2 ≤ 4 := (hS o ho6.1 ho6.2).2.2.1
  have s4o : 0 ≤ J (38 + 2 * o.toNat) 3 ∧ J (38 + 2 * o.toNat) 3 ≤ 60 := (hS o ho6.1 ho6.2).2.2.2.1
  have s6o := (hS o ho6.1 ho6.2).2.2.2.2.2 hho
  have s7o : J 84 o = J (38 + 2 * o.toNat) 3 := s6o.1.symm
  have s8o : ∀ i, 0 ≤ i → i < J (38 + 2 * o.toNat) 3 → M (39 + 2 * o.toNat) i = M 85 (60 * o + i) := s6o.2.1
  show zW _ _ _ _ [some (.ref 0), some (zi s), some (zi i), some (zi o), some (zi j), some (zi n), none, none] _ _ _ _ _
  refine z_iload1 gi_140_0 ?_
  refine z_cS1 gi_140_1 (Nat.le_of_ble_eq_true rfl) gc_143_I ?_
  refine z_iload0 gi_143_0 ?_
  refine z_if_ltF gi_143_1 (by omega) (by omega) ?_
  refine z_iload0 gi_143_4 ?_
  refine z_pushJ gp_143_5 ?_
  refine z_icmp_geF gi_143_7 (by omega) zr_6 (by omega) ?_
  refine z_pushJ gp_143_10 ?_
  refine z_goto gi_143_11 ?_
  refine z_bret1 gi_143_15 gr_143 ?_
  show zW _ _ _ _ _ _ _ _ _ _
  refine z_if_eqF gi_140_4 zr_1 (by decide) ?_
  refine z_iload3 gi_140_7 ?_
  refine z_cS1 gi_140_8 (Nat.le_of_ble_eq_true rfl) gc_143_I ?_
  refine z_iload0 gi_143_0 ?_
  refine z_if_ltF gi_143_1 (by omega) (by omega) ?_
  refine z_iload0 gi_143_4 ?_
  refine z_pushJ gp_143_5 ?_
  refine z_icmp_geF gi_143_7 (by omega) zr_6 (by omega) ?_
  refine z_pushJ gp_143_10 ?_
  refine z_goto gi_143_11 ?_
  refine z_bret1 gi_143_15 gr_143 ?_
  show zW _ _ _ _ _ _ _ _ _ _
  refine z_if_neT gi_140_11 zr_1 (by decide) ?_
  refine z_aload0 gi_140_16 ?_
  refine z_getR (r := 37) gi_140_17 gk_0 (hR _ rm_0_11) ?_
  refine z_iload1 gi_140_20 ?_
  refine z_aald (r := 38 + 2 * s.toNat) gi_140_21 rfl (by decide) (by omega) (rr_shelf hR (by omega)) ?_
  refine z_astore (ls1 := [some (.ref 0), some (zi s), some (zi i), some (zi o), some (zi j), some (zi n), some (.ref (38 + 2 * s.toNat)), none]) gi_140_22 rfl ?_
  refine z_aload0 gi_140_24 ?_
  refine z_getR (r := 37) gi_140_25 gk_0 (hR _ rm_0_11) ?_
  refine z_iload3 gi_140_28 ?_
  refine z_aald (r := 38 + 2 * o.toNat) gi_140_29 rfl (by decide) (by omega) (rr_shelf hR (by omega)) ?_
  refine z_astore (ls1 := [some (.ref 0), some (zi s), some (zi i), some (zi o), some (zi j), some (zi n), some (.ref (38 + 2 * s.toNat)), some (.ref (38 + 2 * o.toNat))]) gi_140_30 rfl ?_
  refine z_aload6 gi_140_32 ?_
  refine z_callVi (As := []) (le := [some _]) gi_140_34 rfl (zk_shelf (by omega)) (Nat.le_of_ble_eq_true rfl) (Nat.le_of_ble_eq_true rfl) rfl ?_
  refine z_aload0 gi_62_0 ?_
  refine z_getI (v := 1) gi_62_1 (zk_shelf (by omega)) (hh) ?_
  refine z_if_neT gi_62_4 zr_1 (by decide) ?_
  refine z_pushJ gp_62_11 ?_
  refine z_bret0 gi_62_12 gr_62 ?_
  show zW _ _ _ _ _ _ _ _ _ _
  refine z_if_neF gi_140_37 zr_0 (by decide) ?_
  refine z_aload7 gi_140_40 ?_
  refine z_callVi (As := []) (le := [some _]) gi_140_42 rfl (zk_shelf (by omega)) (Nat.le_of_ble_eq_true rfl) (Nat.le_of_ble_eq_true rfl) rfl ?_
  refine z_aload0 gi_62_0 ?_
  refine z_getI (v := 2) gi_62_1 (zk_shelf (by omega)) (hho) ?_
  refine z_if_neT gi_62_4 zr_2 (by decide) ?_
  refine z_pushJ gp_62_11 ?_
  refine z_bret0 gi_62_12 gr_62 ?_
  show zW _ _ _ _ _ _ _ _ _ _
  refine z_if_eqT gi_140_45 zr_0 (by decide) ?_
  refine z_aload6 gi_140_51 ?_
  refine z_aload7 gi_140_53 ?_
  refine z_callVi (As := [_]) (le := [some _, some _]) gi_140_55 rfl (zk_shelf (by omega)) (Nat.le_of_ble_eq_true rfl) (Nat.le_of_ble_eq_true rfl) rfl ?_
  refine z_aload0 gi_65_0 ?_
  refine z_getI (v := 1) gi_65_1 (zk_shelf (by omega)) (hh) ?_
  refine z_pushJ gp_65_4 ?_
  refine z_icmp_neT gi_65_5 zr_1 zr_2 (by decide) ?_
  refine z_pushJ gp_65_31 ?_
  refine z_bret0 gi_65_32 gr_65 ?_
  show zW _ _ _ _ _ _ _ _ _ _
  refine z_if_neF gi_140_58 zr_0 (by decide) ?_
  refine z_pushJ gp_140_61 ?_
  refine z_iret gi_140_63 gr_140 ?_
  refine ⟨_, rfl, ?_⟩
  show zW _ _ _ _ [some (.ref 50), some (zi s), some (zi i), some (zi o), some (zi j), some (zi n), none] _ _ _ _ _
  refine z_iload1 gi_254_0 ?_
  refine z_cS1 gi_254_1 (Nat.le_of_ble_eq_true rfl) gc_248_I ?_
  refine z_iload0 gi_248_0 ?_
  refine z_pushJ gp_248_1 ?_
  refine z_pushJ gp_248_2 ?_
  refine z_cS3 gi_248_3 (Nat.le_of_ble_eq_true rfl) gc_148_III ?_
  refine z_iload0 gi_148_0 ?_
  refine z_iload1 gi_148_1 ?_
  refine z_icmp_ltF gi_148_2 (by omega) zr_0 (by omega) ?_
  refine z_iload0 gi_148_5 ?_
  refine z_iload2 gi_148_6 ?_
  refine z_icmp_gtF gi_148_7 (by omega) zr_5 (by omega) ?_
  refine z_pushJ gp_148_10 ?_
  refine z_goto gi_148_11 ?_
  refine z_bret1 gi_148_15 gr_148 ?_
  show zW _ _ _ _ _ _ _ _ _ _
  refine z_bret1 gi_248_6 gr_248 ?_
  show zW _ _ _ _ _ _ _ _ _ _
  refine z_if_eqF gi_254_4 zr_1 (by decide) ?_
  refine z_iload3 gi_254_7 ?_
  refine z_cS1 gi_254_8 (Nat.le_of_ble_eq_true rfl) gc_248_I ?_
  refine z_iload0 gi_248_0 ?_
  refine z_pushJ gp_248_1 ?_
  refine z_pushJ gp_248_2 ?_
  refine z_cS3 gi_248_3 (Nat.le_of_ble_eq_true rfl) gc_148_III ?_
  refine z_iload0 gi_148_0 ?_
  refine z_iload1 gi_148_1 ?_
  refine z_icmp_ltF gi_148_2 (by omega) zr_0 (by omega) ?_
  refine z_iload0 gi_148_5 ?_
  refine z_iload2 gi_148_6 ?_
  refine z_icmp_gtF gi_148_7 (by omega) zr_5 (by omega) ?_
  refine z_pushJ gp_148_10 ?_
  refine z_goto gi_148_11 ?_
  refine z_bret1 gi_148_15 gr_148 ?_
  show zW _ _ _ _ _ _ _ _ _ _
  refine z_bret1 gi_248_6 gr_248 ?_
  show zW _ _ _ _ _ _ _ _ _ _
  refine z_if_neT gi_254_11 zr_1 (by decide) ?_
  refine z_aload0 gi_254_16 ?_
  refine z_getR (r := 83) gi_254_17 gk_50 (hRr _ rm_50_58 (by decide)) ?_
  refine z_iload1 gi_254_20 ?_
  refine z_iald (v := J (38 + 2 * s.toNat) 1) gi_254_21 gk_83 (by decide) (by omega) (e83) ?_
  refine z_pushJ gp_254_22 ?_
  refine z_icmp_eq gi_254_23 (by omega) zrn_1 (fun h1 => ?_) (fun h1 => ?_)
  · refine z_pushJ gp_254_36 ?_
    refine z_iret gi_254_38 gr_254 ?_
    refine ⟨?_, ?_⟩
    · first | rfl | exact congrArg (fun v => some (zi v)) (by omega) | (exfalso; omega)
    · exact hr
  · refine z_aload0 gi_254_26 ?_
    refine z_getR (r := 83) gi_254_27 gk_50 (hRr _ rm_50_58 (by decide)) ?_
    refine z_iload3 gi_254_30 ?_
    refine z_iald (v := (-2) - (J (38 + 2 * o.toNat) 2)) gi_254_31 gk_83 (by decide) (by omega) (e83o) ?_
    refine z_pushJ gp_254_32 ?_
    refine z_icmp_ne gi_254_33 (by omega) zrn_1 (fun h2 => ?_) (fun h2 => ?_)
    · refine z_aload0 gi_254_39 ?_
      refine z_getR (r := 83) gi_254_40 gk_50 (hRr _ rm_50_58 (by decide)) ?_
      refine z_iload1 gi_254_43 ?_
      refine z_iald (v := J (38 + 2 * s.toNat) 1) gi_254_44 gk_83 (by decide) (by omega) (e83) ?_
      refine z_if_ge gi_254_45 (by omega) (fun h3 => ?_) (fun h3 => ?_)
      · refine z_pushJ gp_254_63 ?_
        refine z_iret gi_254_65 gr_254 ?_
        refine ⟨?_, ?_⟩
        · first | rfl | exact congrArg (fun v => some (zi v)) (by omega) | (exfalso; omega)
        · exact hr
      · refine z_aload0 gi_254_48 ?_
        refine z_getR (r := 83) gi_254_49 gk_50 (hRr _ rm_50_58 (by decide)) ?_
        refine z_iload1 gi_254_52 ?_
        refine z_iald (v := J (38 + 2 * s.toNat) 1) gi_254_53 gk_83 (by decide) (by omega) (e83) ?_
        refine z_aload0 gi_254_54 ?_
        refine z_getR (r := 83) gi_254_55 gk_50 (hRr _ rm_50_58 (by decide)) ?_
        refine z_iload3 gi_254_58 ?_
        refine z_iald (v := (-2) - (J (38 + 2 * o.toNat) 2)) gi_254_59 gk_83 (by decide) (by omega) (e83o) ?_
        refine z_icmp_eq gi_254_60 (by omega) (by omega) (fun h4 => ?_) (fun h4 => ?_)
        · refine z_iload5 gi_254_66 ?_
          refine z_if_lt gi_254_68 (by omega) (fun h5 => ?_) (fun h5 => ?_)
          · refine z_pushJ gp_254_107 ?_
            refine z_iret gi_254_109 gr_254 ?_
            refine ⟨?_, ?_⟩
            · first | rfl | exact congrArg (fun v => some (zi v)) (by omega) | (exfalso; omega)
            · exact hr
          · refine z_iload2 gi_254_71 ?_
            refine z_if_lt gi_254_72 (by omega) (fun h6 => ?_) (fun h6 => ?_)
            · refine z_pushJ gp_254_107 ?_
              refine z_iret gi_254_109 gr_254 ?_
              refine ⟨?_, ?_⟩
              · first | rfl | exact congrArg (fun v => some (zi v)) (by omega) | (exfalso; omega)
              · exact hr
            · refine z_iload4 gi_254_75 ?_
              refine z_if_lt gi_254_77 (by omega) (fun h7 => ?_) (fun h7 => ?_)
              · refine z_pushJ gp_254_107 ?_
                refine z_iret gi_254_109 gr_254 ?_
                refine ⟨?_, ?_⟩
                · first | rfl | exact congrArg (fun v => some (zi v)) (by omega) | (exfalso; omega)
                · exact hr
              · refine z_iload2 gi_254_80 ?_
                refine z_aload0 gi_254_81 ?_
                refine z_getR (r := 84) gi_254_82 gk_50 (hRr _ rm_50_59 (by decide)) ?_
                refine z_iload1 gi_254_85 ?_
                refine z_iald (v := J 84 s) gi_254_86 gk_84 (by decide) (by omega) (rfl) ?_
                refine z_iload5 gi_254_87 ?_
                refine z_isub (e := (J 84 s) - n) gi_254_89 rfl ?_
                refine z_icmp_gt gi_254_90 (by omega) (by omega) (fun h8 => ?_) (fun h8 => ?_)
                · refine z_pushJ gp_254_107 ?_
                  refine z_iret gi_254_109 gr_254 ?_
                  refine ⟨?_, ?_⟩
                  · first | rfl | exact congrArg (fun v => some (zi v)) (by omega) | (exfalso; omega)
                  · exact hr
                · refine z_iload4 gi_254_93 ?_
                  refine z_aload0 gi_254_95 ?_
                  refine z_getR (r := 84) gi_254_96 gk_50 (hRr _ rm_50_59 (by decide)) ?_
                  refine z_iload3 gi_254_99 ?_
                  refine z_iald (v := J (38 + 2 * o.toNat) 3) gi_254_100 gk_84 (by decide) (by omega) (s7o) ?_
                  refine z_iload5 gi_254_101 ?_
                  refine z_isub (e := (J (38 + 2 * o.toNat) 3) - n) gi_254_103 rfl ?_
                  refine z_icmp_le gi_254_104 (by omega) (by omega) (fun h9 => ?_) (fun h9 => ?_)
                  · refine z_pushJ gp_254_110 ?_
                    refine z_istore (ls1 := [some (.ref 50), some (zi s), some (zi i), some (zi o), some (zi j), some (zi n), some (zi 0)]) gi_254_111 rfl ?_
                    show zW _ _ _ _ [some (.ref 50), some (zi s), some (zi i), some (zi o), some (zi j), some (zi n), some (zi 0)] [] _ _ _ _
                    refine shift1_k hRr (by omega) (by omega) ?_
                    refine z_pushJ gp_254_147 ?_
                    refine z_istore (ls1 := [some (.ref 50), some (zi s), some (zi i), some (zi o), some (zi j), some (zi n), some (zi 0)]) gi_254_148 rfl ?_
                    show zW _ _ _ _ [some (.ref 50), some (zi s), some (zi i), some (zi o), some (zi j), some (zi n), some (zi 0)] [] _ _ _ _
                    refine shift2_k hRr (by omega) (by omega) ?_
                    refine z_iload5 gi_254_185 ?_
                    refine z_iret gi_254_187 gr_254 ?_
                    refine ⟨?_, ?_⟩
                    · exfalso
                      omega
                    · exfalso
                      omega
                  · refine z_pushJ gp_254_107 ?_
                    refine z_iret gi_254_109 gr_254 ?_
                    refine ⟨?_, ?_⟩
                    · first | rfl | exact congrArg (fun v => some (zi v)) (by omega) | (exfalso; omega)
                    · exact hr
        · refine z_pushJ gp_254_63 ?_
          refine z_iret gi_254_65 gr_254 ?_
          refine ⟨?_, ?_⟩
          · first | rfl | exact congrArg (fun v => some (zi v)) (by omega) | (exfalso; omega)
          · exact hr
    · refine z_pushJ gp_254_36 ?_
      refine z_iret gi_254_38 gr_254 ?_
      refine ⟨?_, ?_⟩
      · first | rfl | exact congrArg (fun v => some (zi v)) (by omega) | (exfalso; omega)
      · exact hr
theorem st_shift_20 {X : Nat × (Nat → Int32)} {d : Nat} {J M : zA} {R : zR} {s i o j n : Int} (hr : Rel X J M R) (hs : -2147483648 ≤ s ∧ s < 2147483648) (hi : -2147483648 ≤ i ∧ i < 2147483648) (ho : -2147483648 ≤ o ∧ o < 2147483648) (hj : -2147483648 ≤ j ∧ j < 2147483648) (hn : -2147483648 ≤ n ∧ n < 2147483648) (hs6 : 0 ≤ s ∧ s < 6) (hh : J (38 + 2 * s.toNat) 0 = 2) (ho6 : 0 ≤ o ∧ o < 6) (hho : J (38 + 2 * o.toNat) 0 = 0) : zW X (d + 20) 140 0 (gEn 140 [(.ref 0), (zi s), (zi i), (zi o), (zi j), (zi n)]) [] J M R (stP X (d + 20) 254 [(zi s), (zi i), (zi o), (zi j), (zi n)]) := by
  have hr0 := hr
  obtain ⟨hR, hG, hY, hD, hP, hC, hAc, hS, hTp, hX, hW⟩ := hr0
  have hRr : zRoR R := zRoR_of hR
  have hA0 := hAc
  obtain ⟨a1, a2, a3, a4, a5, a6⟩ := hA0
  have e83 : J 83 s = -2 - J (38 + 2 * s.toNat) 2 := (hS s hs6.1 hs6.2).1.symm.trans (cH_2 hh)
  have s3 : 0 ≤ J (38 + 2 * s.toNat) 2 ∧ J (38 + 2 * s.toNat) 2 ≤ 4 := (hS s hs6.1 hs6.2).2.2.1
  have s4 : 0 ≤ J (38 + 2 * s.toNat) 3 ∧ J (38 + 2 * s.toNat) 3 ≤ 60 := (hS s hs6.1 hs6.2).2.2.2.1
  have s6 := (hS s hs6.1 hs6.2).2.2.2.2.2 hh
  have s7 : J 84 s = J (38 + 2 * s.toNat) 3 := s6.1.symm
  have s8 : ∀ i, 0 ≤ i → i < J (38 + 2 * s.toNat) 3 → M (39 + 2 * s.toNat) i = M 85 (60 * s + i) := s6.2.1
  have e83o : J 83 o = -1 := (hS o ho6.1 ho6.2).1.symm.trans (cH_0 hho)
  have s3o : 0 ≤ J (38 + 2 * o.toNat) 2 ∧ J (38 + 2 * o.toNat) 2 ≤ 4 := (hS o ho6.1 ho6.2).2.2.1
  have s4o : 0 ≤ J (38 + 2 * o.toNat) 3 ∧ J (38 + 2 * o.toNat) 3 ≤ 60 := (hS o ho6.1 ho6.2).2.2.2.1
  show zW _ _ _ _ [some (.ref 0), some (zi s), some (zi i), some (zi o), some (zi j), some (zi n), none, none] _ _ _ _ _
  refine z_iload1 gi_140_0 ?_
  refine z_cS1 gi_140_1 (Nat.le_of_ble_eq_true rfl) gc_143_I ?_
  refine z_iload0 gi_143_0 ?_
  refine z_if_ltF gi_143_1 (by omega) (by omega) ?_
  refine z_iload0 gi_143_4 ?_
  refine z_pushJ gp_143_5 ?_
  refine z_icmp_geF gi_143_7 (by omega) zr_6 (by omega) ?_
  refine z_pushJ gp_143_10 ?_
  refine z_goto gi_143_11 ?_
  refine z_bret1 gi_143_15 gr_143 ?_
  show zW _ _ _ _ _ _ _ _ _ _
  refine z_if_eqF gi_140_4 zr_1 (by decide) ?_
  refine z_iload3 gi_140_7 ?_
  refine z_cS1 gi_140_8 (Nat.le_of_ble_eq_true rfl) gc_143_I ?_
  refine z_iload0 gi_143_0 ?_
  refine z_if_ltF gi_143_1 (by omega) (by omega) ?_
  refine z_iload0 gi_143_4 ?_
  refine z_pushJ gp_143_5 ?_
  refine z_icmp_geF gi_143_7 (by omega) zr_6 (by omega) ?_
  refine z_pushJ gp_143_10 ?_
  refine z_goto gi_143_11 ?_
  refine z_bret1 gi_143_15 gr_143 ?_
  show zW _ _ _ _ _ _ _ _ _ _
  refine z_if_neT gi_140_11 zr_1 (by decide) ?_
  refine z_aload0 gi_140_16 ?_
  refine z_getR (r := 37) gi_140_17 gk_0 (hR _ rm_0_11) ?_
  refine z_iload1 gi_140_20 ?_
  refine z_aald (r := 38 + 2 * s.toNat) gi_140_21 rfl (by decide) (by omega) (rr_shelf hR (by omega)) ?_
  refine z_astore (ls1 := [some (.ref 0), some (zi s), some (zi i), some (zi o), some (zi j), some (zi n), some (.ref (38 + 2 * s.toNat)), none]) gi_140_22 rfl ?_
  refine z_aload0 gi_140_24 ?_
  refine z_getR (r := 37) gi_140_25 gk_0 (hR _ rm_0_11) ?_
  refine z_iload3 gi_140_28 ?_
  refine z_aald (r := 38 + 2 * o.toNat) gi_140_29 rfl (by decide) (by omega) (rr_shelf hR (by omega)) ?_
  refine z_astore (ls1 := [some (.ref 0), some (zi s), some (zi i), some (zi o), some (zi j), some (zi n), some (.ref (38 + 2 * s.toNat)), some (.ref (38 + 2 * o.toNat))]) gi_140_30 rfl ?_
  refine z_aload6 gi_140_32 ?_
  refine z_callVi (As := []) (le := [some _]) gi_140_34 rfl (zk_shelf (by omega)) (Nat.le_of_ble_eq_true rfl) (Nat.le_of_ble_eq_true rfl) rfl ?_
  refine z_aload0 gi_62_0 ?_
  refine z_getI (v := 2) gi_62_1 (zk_shelf (by omega)) (hh) ?_
  refine z_if_neT gi_62_4 zr_2 (by decide) ?_
  refine z_pushJ gp_62_11 ?_
  refine z_bret0 gi_62_12 gr_62 ?_
  show zW _ _ _ _ _ _ _ _ _ _
  refine z_if_neF gi_140_37 zr_0 (by decide) ?_
  refine z_aload7 gi_140_40 ?_
  refine z_callVi (As := []) (le := [some _]) gi_140_42 rfl (zk_shelf (by omega)) (Nat.le_of_ble_eq_true rfl) (Nat.le_of_ble_eq_true rfl) rfl ?_
  refine z_aload0 gi_62_0 ?_
  refine z_getI (v := 0) gi_62_1 (zk_shelf (by omega)) (hho) ?_
  refine z_if_neF gi_62_4 zr_0 (by decide) ?_
  refine z_pushJ gp_62_7 ?_
  refine z_goto gi_62_8 ?_
  refine z_bret1 gi_62_12 gr_62 ?_
  show zW _ _ _ _ _ _ _ _ _ _
  refine z_if_eqF gi_140_45 zr_1 (by decide) ?_
  refine z_pushJ gp_140_48 ?_
  refine z_iret gi_140_50 gr_140 ?_
  refine ⟨_, rfl, ?_⟩
  show zW _ _ _ _ [some (.ref 50), some (zi s), some (zi i), some (zi o), some (zi j), some (zi n), none] _ _ _ _ _
  refine z_iload1 gi_254_0 ?_
  refine z_cS1 gi_254_1 (Nat.le_of_ble_eq_true rfl) gc_248_I ?_
  refine z_iload0 gi_248_0 ?_
  refine z_pushJ gp_248_1 ?_
  refine z_pushJ gp_248_2 ?_
  refine z_cS3 gi_248_3 (Nat.le_of_ble_eq_true rfl) gc_148_III ?_
  refine z_iload0 gi_148_0 ?_
  refine z_iload1 gi_148_1 ?_
  refine z_icmp_ltF gi_148_2 (by omega) zr_0 (by omega) ?_
  refine z_iload0 gi_148_5 ?_
  refine z_iload2 gi_148_6 ?_
  refine z_icmp_gtF gi_148_7 (by omega) zr_5 (by omega) ?_
  refine z_pushJ gp_148_10 ?_
  refine z_goto gi_148_11 ?_
  refine z_bret1 gi_148_15 gr_148 ?_
  show zW _ _ _ _ _ _ _ _ _ _
  refine z_bret1 gi_248_6 gr_248 ?_
  show zW _ _ _ _ _ _ _ _ _ _
  refine z_if_eqF gi_254_4 zr_1 (by decide) ?_
  refine z_iload3 gi_254_7 ?_
  refine z_cS1 gi_254_8 (Nat.le_of_ble_eq_true rfl) gc_248_I ?_
  refine z_iload0 gi_248_0 ?_
  refine z_pushJ gp_248_1 ?_
  refine z_pushJ gp_248_2 ?_
  refine z_cS3 gi_248_3 (Nat.le_of_ble_eq_true rfl) gc_148_III ?_
  refine z_iload0 gi_148_0 ?_
  refine z_iload1 gi_148_1 ?_
  refine z_icmp_ltF gi_148_2 (by omega) zr_0 (by omega) ?_
  refine z_iload0 gi_148_5 ?_
  refine z_iload2 gi_148_6 ?_
  refine z_icmp_gtF gi_148_7 (by omega) zr_5 (by omega) ?_
  refine z_pushJ gp_148_10 ?_
  refine z_goto gi_148_11 ?_
  refine z_bret1 gi_148_15 gr_148 ?_
  show zW _ _ _ _ _ _ _ _ _ _
  refine z_bret1 gi_248_6 gr_248 ?_
  show zW _ _ _ _ _ _ _ _ _ _
  refine z_if_neT gi_254_11 zr_1 (by decide) ?_
  refine z_aload0 gi_254_16 ?_
  refine z_getR (r := 83) gi_254_17 gk_50 (hRr _ rm_50_58 (by decide)) ?_
  refine z_iload1 gi_254_20 ?_
  refine z_iald (v := (-2) - (J (38 + 2 * s.toNat) 2)) gi_254_21 gk_83 (by decide) (by omega) (e83) ?_
  refine z_pushJ gp_254_22 ?_
  refine z_icmp_eq gi_254_23 (by omega) zrn_1 (fun h1 => ?_) (fun h1 => ?_)
  · refine z_pushJ gp_254_36 ?_
    refine z_iret gi_254_38 gr_254 ?_
    refine ⟨?_, ?_⟩
    · first | rfl | exact congrArg (fun v => some (zi v)) (by omega) | (exfalso; omega)
    · exact hr
  · refine z_aload0 gi_254_26 ?_
    refine z_getR (r := 83) gi_254_27 gk_50 (hRr _ rm_50_58 (by decide)) ?_
    refine z_iload3 gi_254_30 ?_
    refine z_iald (v := (-1)) gi_254_31 gk_83 (by decide) (by omega) (e83o) ?_
    refine z_pushJ gp_254_32 ?_
    refine z_icmp_neF gi_254_33 zrn_1 zrn_1 (by decide) ?_
    refine z_pushJ gp_254_36 ?_
    refine z_iret gi_254_38 gr_254 ?_
    refine ⟨?_, ?_⟩
    · first | rfl | exact congrArg (fun v => some (zi v)) (by omega) | (exfalso; omega)
    · exact hr
theorem st_shift_21 {X : Nat × (Nat → Int32)} {d : Nat} {J M : zA} {R : zR} {s i o j n : Int} (hr : Rel X J M R) (hs : -2147483648 ≤ s ∧ s < 2147483648) (hi : -2147483648 ≤ i ∧ i < 2147483648) (ho : -2147483648 ≤ o ∧ o < 2147483648) (hj : -2147483648 ≤ j ∧ j < 2147483648) (hn : -2147483648 ≤ n ∧ n < 2147483648) (hs6 : 0 ≤ s ∧ s < 6) (hh : J (38 + 2 * s.toNat) 0 = 2) (ho6 : 0 ≤ o ∧ o < 6) (hho : J (38 + 2 * o.toNat) 0 = 1) : zW X (d + 20) 140 0 (gEn 140 [(.ref 0), (zi s), (zi i), (zi o), (zi j), (zi n)]) [] J M R (stP X (d + 20) 254 [(zi s), (zi i), (zi o), (zi j), (zi n)]) := by
  have hr0 := hr
  obtain ⟨hR, hG, hY, hD, hP, hC, hAc, hS, hTp, hX, hW⟩ := hr0
  have hRr : zRoR R := zRoR_of hR
  have hA0 := hAc
  obtain ⟨a1, a2, a3, a4, a5, a6⟩ := hA0
  have e83 : J 83 s = -2 - J (38 + 2 * s.toNat) 2 := (hS s hs6.1 hs6.2).1.symm.trans (cH_2 hh)
  have s3 : 0 ≤ J (38 + 2 * s.toNat) 2 ∧ J (38 + 2 * s.toNat) 2 ≤ 4 := (hS s hs6.1 hs6.2).2.2.1
  have s4 : 0 ≤ J (38 + 2 * s.toNat) 3 ∧ J (38 + 2 * s.toNat) 3 ≤ 60 := (hS s hs6.1 hs6.2).2.2.2.1
  have s6 := (hS s hs6.1 hs6.2).2.2.2.2.2 hh
  have s7 : J 84 s = J (38 + 2 * s.toNat) 3 := s6.1.symm
  have s8 : ∀ i, 0 ≤ i → i < J (38 + 2 * s.toNat) 3 → M (39 + 2 * s.toNat) i = M 85 (60 * s + i) := s6.2.1
  have e83o : J 83 o = J (38 + 2 * o.toNat) 1 := (hS o ho6.1 ho6.2).1.symm.trans (cH_1 hho)
  have s3o : 0 ≤ J (38 + 2 * o.toNat) 2 ∧ J (38 + 2 * o.toNat) 2 ≤ 4 := (hS o ho6.1 ho6.2).2.2.1
  have s4o : 0 ≤ J (38 + 2 * o.toNat) 3 ∧ J (38 + 2 * o.toNat) 3 ≤ 60 := (hS o ho6.1 ho6.2).2.2.2.1
  have s5o : 0 ≤ J (38 + 2 * o.toNat) 1 ∧ J (38 + 2 * o.toNat) 1 < J 34 1 := (hS o ho6.1 ho6.2).2.2.2.2.1 hho
  show zW _ _ _ _ [some (.ref 0), some (zi s), some (zi i), some (zi o), some (zi j), some (zi n), none, none] _ _ _ _ _
  refine z_iload1 gi_140_0 ?_
  refine z_cS1 gi_140_1 (Nat.le_of_ble_eq_true rfl) gc_143_I ?_
  refine z_iload0 gi_143_0 ?_
  refine z_if_ltF gi_143_1 (by omega) (by omega) ?_
  refine z_iload0 gi_143_4 ?_
  refine z_pushJ gp_143_5 ?_
  refine z_icmp_geF gi_143_7 (by omega) zr_6 (by omega) ?_
  refine z_pushJ gp_143_10 ?_
  refine z_goto gi_143_11 ?_
  refine z_bret1 gi_143_15 gr_143 ?_
  show zW _ _ _ _ _ _ _ _ _ _
  refine z_if_eqF gi_140_4 zr_1 (by decide) ?_
  refine z_iload3 gi_140_7 ?_
  refine z_cS1 gi_140_8 (Nat.le_of_ble_eq_true rfl) gc_143_I ?_
  refine z_iload0 gi_143_0 ?_
  refine z_if_ltF gi_143_1 (by omega) (by omega) ?_
  refine z_iload0 gi_143_4 ?_
  refine z_pushJ gp_143_5 ?_
  refine z_icmp_geF gi_143_7 (by omega) zr_6 (by omega) ?_
  refine z_pushJ gp_143_10 ?_
  refine z_goto gi_143_11 ?_
  refine z_bret1 gi_143_15 gr_143 ?_
  show zW _ _ _ _ _ _ _ _ _ _
  refine z_if_neT gi_140_11 zr_1 (by decide) ?_
  refine z_aload0 gi_140_16 ?_
  refine z_getR (r := 37) gi_140_17 gk_0 (hR _ rm_0_11) ?_
  refine z_iload1 gi_140_20 ?_
  refine z_aald (r := 38 + 2 * s.toNat) gi_140_21 rfl (by decide) (by omega) (rr_shelf hR (by omega)) ?_
  refine z_astore (ls1 := [some (.ref 0), some (zi s), some (zi i), some (zi o), some (zi j), some (zi n), some (.ref (38 + 2 * s.toNat)), none]) gi_140_22 rfl ?_
  refine z_aload0 gi_140_24 ?_
  refine z_getR (r := 37) gi_140_25 gk_0 (hR _ rm_0_11) ?_
  refine z_iload3 gi_140_28 ?_
  refine z_aald (r := 38 + 2 * o.toNat) gi_140_29 rfl (by decide) (by omega) (rr_shelf hR (by omega)) ?_
  refine z_astore (ls1 := [some (.ref 0), some (zi s), some (zi i), some (zi o), some (zi j), some (zi n), some (.ref (38 + 2 * s.toNat)), some (.ref (38 + 2 * o.toNat))]) gi_140_30 rfl ?_
  refine z_aload6 gi_140_32 ?_
  refine z_callVi (As := []) (le := [some _]) gi_140_34 rfl (zk_shelf (by omega)) (Nat.le_of_ble_eq_true rfl) (Nat.le_of_ble_eq_true rfl) rfl ?_
  refine z_aload0 gi_62_0 ?_
  refine z_getI (v := 2) gi_62_1 (zk_shelf (by omega)) (hh) ?_
  refine z_if_neT gi_62_4 zr_2 (by decide) ?_
  refine z_pushJ gp_62_11 ?_
  refine z_bret0 gi_62_12 gr_62 ?_
  show zW _ _ _ _ _ _ _ _ _ _
  refine z_if_neF gi_140_37 zr_0 (by decide) ?_
  refine z_aload7 gi_140_40 ?_
  refine z_callVi (As := []) (le := [some _]) gi_140_42 rfl (zk_shelf (by omega)) (Nat.le_of_ble_eq_true rfl) (Nat.le_of_ble_eq_true rfl) rfl ?_
  refine z_aload0 gi_62_0 ?_
  refine z_getI (v := 1) gi_62_1 (zk_shelf (by omega)) (hho) ?_
  refine z_if_neT gi_62_4 zr_1 (by decide) ?_
  refine z_pushJ gp_62_11 ?_
  refine z_bret0 gi_62_12 gr_62 ?_
  show zW _ _ _ _ _ _ _ _ _ _
  refine z_if_eqT gi_140_45 zr_0 (by decide) ?_
  refine z_aload6 gi_140_51 ?_
  refine z_aload7 gi_140_53 ?_
  refine z_callVi (As := [_]) (le := [some _, some _]) gi_140_55 rfl (zk_shelf (by omega)) (Nat.le_of_ble_eq_true rfl) (Nat.le_of_ble_eq_true rfl) rfl ?_
  refine z_aload0 gi_65_0 ?_
  refine z_getI (v := 2) gi_65_1 (zk_shelf (by omega)) (hh) ?_
  refine z_pushJ gp_65_4 ?_
  refine z_icmp_neF gi_65_5 zr_2 zr_2 (by decide) ?_
  refine z_aload1 gi_65_8 ?_
  refine z_getI (v := 1) gi_65_9 (zk_shelf (by omega)) (hho) ?_
  refine z_pushJ gp_65_12 ?_
  refine z_icmp_neT gi_65_13 zr_1 zr_2 (by decide) ?_
  refine z_pushJ gp_65_31 ?_
  refine z_bret0 gi_65_32 gr_65 ?_
  show zW _ _ _ _ _ _ _ _ _ _
  refine z_if_neF gi_140_58 zr_0 (by decide) ?_
  refine z_pushJ gp_140_61 ?_
  refine z_iret gi_140_63 gr_140 ?_
  refine ⟨_, rfl, ?_⟩
  show zW _ _ _ _ [some (.ref 50), some (zi s), some (zi i), some (zi o), some (zi j), some (zi n), none] _ _ _ _ _
  refine z_iload1 gi_254_0 ?_
  refine z_cS1 gi_254_1 (Nat.le_of_ble_eq_true rfl) gc_248_I ?_
  refine z_iload0 gi_248_0 ?_
  refine z_pushJ gp_248_1 ?_
  refine z_pushJ gp_248_2 ?_
  refine z_cS3 gi_248_3 (Nat.le_of_ble_eq_true rfl) gc_148_III ?_
  refine z_iload0 gi_148_0 ?_
  refine z_iload1 gi_148_1 ?_
  refine z_icmp_ltF gi_148_2 (by omega) zr_0 (by omega) ?_
  refine z_iload0 gi_148_5 ?_
  refine z_iload2 gi_148_6 ?_
  refine z_icmp_gtF gi_148_7 (by omega) zr_5 (by omega) ?_
  refine z_pushJ gp_148_10 ?_
  refine z_goto gi_148_11 ?_
  refine z_bret1 gi_148_15 gr_148 ?_
  show zW _ _ _ _ _ _ _ _ _ _
  refine z_bret1 gi_248_6 gr_248 ?_
  show zW _ _ _ _ _ _ _ _ _ _
  refine z_if_eqF gi_254_4 zr_1 (by decide) ?_
  refine z_iload3 gi_254_7 ?_
  refine z_cS1 gi_254_8 (Nat.le_of_ble_eq_true rfl) gc_248_I ?_
  refine z_iload0 gi_248_0 ?_
  refine z_pushJ gp_248_1 ?_
  refine z_pushJ gp_248_2 ?_
  refine z_cS3 gi_248_3 (Nat.le_of_ble_eq_true rfl) gc_148_III ?_
  refine z_iload0 gi_148_0 ?_
  refine z_iload1 gi_148_1 ?_
  refine z_icmp_ltF gi_148_2 (by omega) zr_0 (by omega) ?_
  refine z_iload0 gi_148_5 ?_
  refine z_iload2 gi_148_6 ?_
  refine z_icmp_gtF gi_148_7 (by omega) zr_5 (by omega) ?_
  refine z_pushJ gp_148_10 ?_
  refine z_goto gi_148_11 ?_
  refine z_bret1 gi_148_15 gr_148 ?_
  show zW _ _ _ _ _ _ _ _ _ _
  refine z_bret1 gi_248_6 gr_248 ?_
  show zW _ _ _ _ _ _ _ _ _ _
  refine z_if_neT gi_254_11 zr_1 (by decide) ?_
  refine z_aload0 gi_254_16 ?_
  refine z_getR (r := 83) gi_254_17 gk_50 (hRr _ rm_50_58 (by decide)) ?_
  refine z_iload1 gi_254_20 ?_
  refine z_iald (v := (-2) - (J (38 + 2 * s.toNat) 2)) gi_254_21 gk_83 (by decide) (by omega) (e83) ?_
  refine z_pushJ gp_254_22 ?_
  refine z_icmp_eq gi_254_23 (by omega) zrn_1 (fun h1 => ?_) (fun h1 => ?_)
  · refine z_pushJ gp_254_36 ?_
    refine z_iret gi_254_38 gr_254 ?_
    refine ⟨?_, ?_⟩
    · first | rfl | exact congrArg (fun v => some (zi v)) (by omega) | (exfalso; omega)
    · exact hr
  · refine z_aload0 gi_254_26 ?_
    refine z_getR (r := 83) gi_254_27 gk_50 (hRr _ rm_50_58 (by decide)) ?_
    refine z_iload3 gi_254_30 ?_
    refine z_iald (v := J (38 + 2 * o.toNat) 1) gi_254_31 gk_83 (by decide) (by omega) (e83o) ?_
    refine z_pushJ gp_254_32 ?_
    refine z_icmp_ne gi_254_33 (by omega) zrn_1 (fun h2 => ?_) (fun h2 => ?_)
    · refine z_aload0 gi_254_39 ?_
      refine z_getR (r := 83) gi_254_40 gk_50 (hRr _ rm_50_58 (by decide)) ?_
      refine z_iload1 gi_254_43 ?_
      refine z_iald (v := (-2) - (J (38 + 2 * s.toNat) 2)) gi_254_44 gk_83 (by decide) (by omega) (e83) ?_
      refine z_if_ge gi_254_45 (by omega) (fun h3 => ?_) (fun h3 => ?_)
      · refine z_pushJ gp_254_63 ?_
        refine z_iret gi_254_65 gr_254 ?_
        refine ⟨?_, ?_⟩
        · first | rfl | exact congrArg (fun v => some (zi v)) (by omega) | (exfalso; omega)
        · exact hr
      · refine z_aload0 gi_254_48 ?_
        refine z_getR (r := 83) gi_254_49 gk_50 (hRr _ rm_50_58 (by decide)) ?_
        refine z_iload1 gi_254_52 ?_
        refine z_iald (v := (-2) - (J (38 + 2 * s.toNat) 2)) gi_254_53 gk_83 (by decide) (by omega) (e83) ?_
        refine z_aload0 gi_254_54 ?_
        refine z_getR (r := 83) gi_254_55 gk_50 (hRr _ rm_50_58 (by decide)) ?_
        refine z_iload3 gi_254_58 ?_
        refine z_iald (v := J (38 + 2 * o.toNat) 1) gi_254_59 gk_83 (by decide) (by omega) (e83o) ?_
        refine z_icmp_eq gi_254_60 (by omega) (by omega) (fun h4 => ?_) (fun h4 => ?_)
        · refine z_iload5 gi_254_66 ?_
          refine z_if_lt gi_254_68 (by omega) (fun h5 => ?_) (fun h5 => ?_)
          · refine z_pushJ gp_254_107 ?_
            refine z_iret gi_254_109 gr_254 ?_
            refine ⟨?_, ?_⟩
            · first | rfl | exact congrArg (fun v => some (zi v)) (by omega) | (exfalso; omega)
            · exact hr
          · refine z_iload2 gi_254_71 ?_
            refine z_if_lt gi_254_72 (by omega) (fun h6 => ?_) (fun h6 => ?_)
            · refine z_pushJ gp_254_107 ?_
              refine z_iret gi_254_109 gr_254 ?_
              refine ⟨?_, ?_⟩
              · first | rfl | exact congrArg (fun v => some (zi v)) (by omega) | (exfalso; omega)
              · exact hr
            · refine z_iload4 gi_254_75 ?_
              refine z_if_lt gi_254_77 (by omega) (fun h7 => ?_) (fun h7 => ?_)
              · refine z_pushJ gp_254_107 ?_
                refine z_iret gi_254_109 gr_254 ?_
                refine ⟨?_, ?_⟩
                · first | rfl | exact congrArg (fun v => some (zi v)) (by omega) | (exfalso; omega)
                · exact hr
              · refine z_iload2 gi_254_80 ?_
                refine z_aload0 gi_254_81 ?_
                refine z_getR (r := 84) gi_254_82 gk_50 (hRr _ rm_50_59 (by decide)) ?_
                refine z_iload1 gi_254_85 ?_
                refine z_iald (v := J (38 + 2 * s.toNat) 3) gi_254_86 gk_84 (by decide) (by omega) (s7) ?_
                refine z_iload5 gi_254_87 ?_
                refine z_isub (e := (J (38 + 2 * s.toNat) 3) - n) gi_254_89 rfl ?_
                refine z_icmp_gt gi_254_90 (by omega) (by omega) (fun h8 => ?_) (fun h8 => ?_)
                · refine z_pushJ gp_254_107 ?_
                  refine z_iret gi_254_109 gr_254 ?_
                  refine ⟨?_, ?_⟩
                  · first | rfl | exact congrArg (fun v => some (zi v)) (by omega) | (exfalso; omega)
                  · exact hr
                · refine z_iload4 gi_254_93 ?_
                  refine z_aload0 gi_254_95 ?_
                  refine z_getR (r := 84) gi_254_96 gk_50 (hRr _ rm_50_59 (by decide)) ?_
                  refine z_iload3 gi_254_99 ?_
                  refine z_iald (v := J 84 o) gi_254_100 gk_84 (by decide) (by omega) (rfl) ?_
                  refine z_iload5 gi_254_101 ?_
                  refine z_isub (e := (J 84 o) - n) gi_254_103 rfl ?_
                  refine z_icmp_le gi_254_104 (by omega) (by omega) (fun h9 => ?_) (fun h9 => ?_)
                  · refine z_pushJ gp_254_110 ?_
                    refine z_istore (ls1 := [some (.ref 50), some (zi s), some (zi i), some (zi o), some (zi j), some (zi n), some (zi 0)]) gi_254_111 rfl ?_
                    show zW _ _ _ _ [some (.ref 50), some (zi s), some (zi i), some (zi o), some (zi j), some (zi n), some (zi 0)] [] _ _ _ _
                    refine shift1_k hRr (by omega) (by omega) ?_
                    refine z_pushJ gp_254_147 ?_
                    refine z_istore (ls1 := [some (.ref 50), some (zi s), some (zi i), some (zi o), some (zi j), some (zi n), some (zi 0)]) gi_254_148 rfl ?_
                    show zW _ _ _ _ [some (.ref 50), some (zi s), some (zi i), some (zi o), some (zi j), some (zi n), some (zi 0)] [] _ _ _ _
                    refine shift2_k hRr (by omega) (by omega) ?_
                    refine z_iload5 gi_254_185 ?_
                    refine z_iret gi_254_187 gr_254 ?_
                    refine ⟨?_, ?_⟩
                    · exfalso
                      omega
                    · exfalso
                      omega
                  · refine z_pushJ gp_254_107 ?_
                    refine z_iret gi_254_109 gr_254 ?_
                    refine ⟨?_, ?_⟩
                    · first | rfl | exact congrArg (fun v => some (zi v)) (by omega) | (exfalso; omega)
                    · exact hr
        · refine z_pushJ gp_254_63 ?_
          refine z_iret gi_254_65 gr_254 ?_
          refine ⟨?_, ?_⟩
          · first | rfl | exact congrArg (fun v => some (zi v)) (by omega) | (exfalso; omega)
          · exact hr
    · refine z_pushJ gp_254_36 ?_
      refine z_iret gi_254_38 gr_254 ?_
      refine ⟨?_, ?_⟩
      · first | rfl | exact congrArg (fun v => some (zi v)) (by omega) | (exfalso; omega)
      · exact hr
theorem st_shift_22 {X : Nat × (Nat → Int32)} {d : Nat} {J M : zA} {R : zR} {s i o j n : Int} (hr : Rel X J M R) (hs : -2147483648 ≤ s ∧ s < 2147483648) (hi : -2147483648 ≤ i ∧ i < 2147483648) (ho : -2147483648 ≤ o ∧ o < 2147483648) (hj : -2147483648 ≤ j ∧ j < 2147483648) (hn : -2147483648 ≤ n ∧ n < 2147483648) (hs6 : 0 ≤ s ∧ s < 6) (hh : J (38 + 2 * s.toNat) 0 = 2) (ho6 : 0 ≤ o ∧ o < 6) (hho : J (38 + 2 * o.toNat) 0 = 2) : zW X (d + 20) 140 0 (gEn 140 [(.ref 0), (zi s), (zi i), (zi o), (zi j), (zi n)]) [] J M R (stP X (d + 20) 254 [(zi s), (zi i), (zi o), (zi j), (zi n)]) := by
  have hr0 := hr
  obtain ⟨hR, hG, hY, hD, hP, hC, hAc, hS, hTp, hX, hW⟩ := hr0
  have hRr : zRoR R := zRoR_of hR
  have hA0 := hAc
  obtain ⟨a1, a2, a3, a4, a5, a6⟩ := hA0
  have e83 : J 83 s = -2 - J (38 + 2 * s.toNat) 2 := (hS s hs6.1 hs6.2).1.symm.trans (cH_2 hh)
  have s3 : 0 ≤ J (38 + 2 * s.toNat) 2 ∧ J (38 + 2 * s.toNat) 2 ≤ 4 := (hS s hs6.1 hs6.2).2.2.1
  have s4 : 0 ≤ J (38 + 2 * s.toNat) 3 ∧ J (38 + 2 * s.toNat) 3 ≤ 60 := (hS s hs6.1 hs6.2).2.2.2.1
  have s6 := (hS s hs6.1 hs6.2).2.2.2.2.2 hh
  have s7 : J 84 s = J (38 + 2 * s.toNat) 3 := s6.1.symm
  have s8 : ∀ i, 0 ≤ i → i < J (38 + 2 * s.toNat) 3 → M (39 + 2 * s.toNat) i = M 85 (60 * s + i) := s6.2.1
  have e83o : J 83 o = -2 - J (38 + 2 * o.toNat) 2 := (hS o ho6.1 ho6.2).1.symm.trans (cH_2 hho)
  have s3o : 0 ≤ J (38 + 2 * o.toNat) 2 ∧ J (38 + 2 * o.toNat) 2 ≤ 4 := (hS o ho6.1 ho6.2).2.2.1
  have s4o : 0 ≤ J (38 + 2 * o.toNat) 3 ∧ J (38 + 2 * o.toNat) 3 ≤ 60 := (hS o ho6.1 ho6.2).2.2.2.1
  have s6o := (hS o ho6.1 ho6.2).2.2.2.2.2 hho
  have s7o : J 84 o = J (38 + 2 * o.toNat) 3 := s6o.1.symm
  have s8o : ∀ i, 0 ≤ i → i < J (38 + 2 * o.toNat) 3 → M (39 + 2 * o.toNat) i = M 85 (60 * o + i) := s6o.2.1
  show zW _ _ _ _ [some (.ref 0), some (zi s), some (zi i), some (zi o), some (zi j), some (zi n), none, none] _ _ _ _ _
  refine z_iload1 gi_140_0 ?_
  refine z_cS1 gi_140_1 (Nat.le_of_ble_eq_true rfl) gc_143_I ?_
  refine z_iload0 gi_143_0 ?_
  refine z_if_ltF gi_143_1 (by omega) (by omega) ?_
  refine z_iload0 gi_143_4 ?_
  refine z_pushJ gp_143_5 ?_
  refine z_icmp_geF gi_143_7 (by omega) zr_6 (by omega) ?_
  refine z_pushJ gp_143_10 ?_
  refine z_goto gi_143_11 ?_
  refine z_bret1 gi_143_15 gr_143 ?_
  show zW _ _ _ _ _ _ _ _ _ _
  refine z_if_eqF gi_140_4 zr_1 (by decide) ?_
  refine z_iload3 gi_140_7 ?_
  refine z_cS1 gi_140_8 (Nat.le_of_ble_eq_true rfl) gc_143_I ?_
  refine z_iload0 gi_143_0 ?_
  refine z_if_ltF gi_143_1 (by omega) (by omega) ?_
  refine z_iload0 gi_143_4 ?_
  refine z_pushJ gp_143_5 ?_
  refine z_icmp_geF gi_143_7 (by omega) zr_6 (by omega) ?_
  refine z_pushJ gp_143_10 ?_
  refine z_goto gi_143_11 ?_
  refine z_bret1 gi_143_15 gr_143 ?_
  show zW _ _ _ _ _ _ _ _ _ _
  refine z_if_neT gi_140_11 zr_1 (by decide) ?_
  refine z_aload0 gi_140_16 ?_
  refine z_getR (r := 37) gi_140_17 gk_0 (hR _ rm_0_11) ?_
  refine z_iload1 gi_140_20 ?_
  refine z_aald (r := 38 + 2 * s.toNat) gi_140_21 rfl (by decide) (by omega) (rr_shelf hR (by omega)) ?_
  refine z_astore (ls1 := [some (.ref 0), some (zi s), some (zi i), some (zi o), some (zi j), some (zi n), some (.ref (38 + 2 * s.toNat)), none]) gi_140_22 rfl ?_
  refine z_aload0 gi_140_24 ?_
  refine z_getR (r := 37) gi_140_25 gk_0 (hR _ rm_0_11) ?_
  refine z_iload3 gi_140_28 ?_
  refine z_aald (r := 38 + 2 * o.toNat) gi_140_29 rfl (by decide) (by omega) (rr_shelf hR (by omega)) ?_
  refine z_astore (ls1 := [some (.ref 0), some (zi s), some (zi i), some (zi o), some (zi j), some (zi n), some (.ref (38 + 2 * s.toNat)), some (.ref (38 + 2 * o.toNat))]) gi_140_30 rfl ?_
  refine z_aload6 gi_140_32 ?_
  refine z_callVi (As := []) (le := [some _]) gi_140_34 rfl (zk_shelf (by omega)) (Nat.le_of_ble_eq_true rfl) (Nat.le_of_ble_eq_true rfl) rfl ?_
  refine z_aload0 gi_62_0 ?_
  refine z_getI (v := 2) gi_62_1 (zk_shelf (by omega)) (hh) ?_
  refine z_if_neT gi_62_4 zr_2 (by decide) ?_
  refine z_pushJ gp_62_11 ?_
  refine z_bret0 gi_62_12 gr_62 ?_
  show zW _ _ _ _ _ _ _ _ _ _
  refine z_if_neF gi_140_37 zr_0 (by decide) ?_
  refine z_aload7 gi_140_40 ?_
  refine z_callVi (As := []) (le := [some _]) gi_140_42 rfl (zk_shelf (by omega)) (Nat.le_of_ble_eq_true rfl) (Nat.le_of_ble_eq_true rfl) rfl ?_
  refine z_aload0 gi_62_0 ?_
  refine z_getI (v := 2) gi_62_1 (zk_shelf (by omega)) (hho) ?_
  refine z_if_neT gi_62_4 zr_2 (by decide) ?_
  refine z_pushJ gp_62_11 ?_
  refine z_bret0 gi_62_12 gr_62 ?_
  show zW _ _ _ _ _ _ _ _ _ _
  refine z_if_eqT gi_140_45 zr_0 (by decide) ?_
  refine z_aload6 gi_140_51 ?_
  refine z_aload7 gi_140_53 ?_
  refine z_callVi (As := [_]) (le := [some _, some _]) gi_140_55 rfl (zk_shelf (by omega)) (Nat.le_of_ble_eq_true rfl) (Nat.le_of_ble_eq_true rfl) rfl ?_
  refine z_aload0 gi_65_0 ?_
  refine z_getI (v := 2) gi_65_1 (zk_shelf (by omega)) (hh) ?_
  refine z_pushJ gp_65_4 ?_
  refine z_icmp_neF gi_65_5 zr_2 zr_2 (by decide) ?_
  refine z_aload1 gi_65_8 ?_
  refine z_getI (v := 2) gi_65_9 (zk_shelf (by omega)) (hho) ?_
  refine z_pushJ gp_65_12 ?_
  refine z_icmp_neF gi_65_13 zr_2 zr_2 (by decide) ?_
  refine z_aload0 rfl ?_
  refine z_getI (v := J (38 + 2 * s.toNat) 2) rfl (zk_shelf (by omega)) (rfl) ?_
  refine z_aload1 rfl ?_
  refine z_getI (v := J (38 + 2 * o.toNat) 2) rfl (zk_shelf (by omega)) (rfl) ?_
  refine z_icmp_ne rfl (by omega) (by omega) (fun h1 => ?_) (fun h1 => ?_)
  · refine z_pushJ gp_65_31 ?_
    refine z_bret0 gi_65_32 gr_65 ?_
    show zW _ _ _ _ _ _ _ _ _ _
    refine z_if_neF gi_140_58 zr_0 (by decide) ?_
    refine z_pushJ gp_140_61 ?_
    refine z_iret gi_140_63 gr_140 ?_
    refine ⟨_, rfl, ?_⟩
    show zW _ _ _ _ [some (.ref 50), some (zi s), some (zi i), some (zi o), some (zi j), some (zi n), none] _ _ _ _ _
    refine z_iload1 gi_254_0 ?_
    refine z_cS1 gi_254_1 (Nat.le_of_ble_eq_true rfl) gc_248_I ?_
    refine z_iload0 gi_248_0 ?_
    refine z_pushJ gp_248_1 ?_
    refine z_pushJ gp_248_2 ?_
    refine z_cS3 gi_248_3 (Nat.le_of_ble_eq_true rfl) gc_148_III ?_
    refine z_iload0 gi_148_0 ?_
    refine z_iload1 gi_148_1 ?_
    refine z_icmp_ltF gi_148_2 (by omega) zr_0 (by omega) ?_
    refine z_iload0 gi_148_5 ?_
    refine z_iload2 gi_148_6 ?_
    refine z_icmp_gtF gi_148_7 (by omega) zr_5 (by omega) ?_
    refine z_pushJ gp_148_10 ?_
    refine z_goto gi_148_11 ?_
    refine z_bret1 gi_148_15 gr_148 ?_
    show zW _ _ _ _ _ _ _ _ _ _
    refine z_bret1 gi_248_6 gr_248 ?_
    show zW _ _ _ _ _ _ _ _ _ _
    refine z_if_eqF gi_254_4 zr_1 (by decide) ?_
    refine z_iload3 gi_254_7 ?_
    refine z_cS1 gi_254_8 (Nat.le_of_ble_eq_true rfl) gc_248_I ?_
    refine z_iload0 gi_248_0 ?_
    refine z_pushJ gp_248_1 ?_
    refine z_pushJ gp_248_2 ?_
    refine z_cS3 gi_248_3 (Nat.le_of_ble_eq_true rfl) gc_148_III ?_
    refine z_iload0 gi_148_0 ?_
    refine z_iload1 gi_148_1 ?_
    refine z_icmp_ltF gi_148_2 (by omega) zr_0 (by omega) ?_
    refine z_iload0 gi_148_5 ?_
    refine z_iload2 gi_148_6 ?_
    refine z_icmp_gtF gi_148_7 (by omega) zr_5 (by omega) ?_
    refine z_pushJ gp_148_10 ?_
    refine z_goto gi_148_11 ?_
    refine z_bret1 gi_148_15 gr_148 ?_
    show zW _ _ _ _ _ _ _ _ _ _
    refine z_bret1 gi_248_6 gr_248 ?_
    show zW _ _ _ _ _ _ _ _ _ _
    refine z_if_neT gi_254_11 zr_1 (by decide) ?_
    refine z_aload0 gi_254_16 ?_
    refine z_getR (r := 83) gi_254_17 gk_50 (hRr _ rm_50_58 (by decide)) ?_
    refine z_iload1 gi_254_20 ?_
    refine z_iald (v := (-2) - (J (38 + 2 * s.toNat) 2)) gi_254_21 gk_83 (by decide) (by omega) (e83) ?_
    refine z_pushJ gp_254_22 ?_
    refine z_icmp_eq gi_254_23 (by omega) zrn_1 (fun h2 => ?_) (fun h2 => ?_)
    · refine z_pushJ gp_254_36 ?_
      refine z_iret gi_254_38 gr_254 ?_
      refine ⟨?_, ?_⟩
      · first | rfl | exact congrArg (fun v => some (zi v)) (by omega) | (exfalso; omega)
      · exact hr
    · refine z_aload0 gi_254_26 ?_
      refine z_getR (r := 83) gi_254_27 gk_50 (hRr _ rm_50_58 (by decide)) ?_
      refine z_iload3 gi_254_30 ?_
      refine z_iald (v := (-2) - (J (38 + 2 * o.toNat) 2)) gi_254_31 gk_83 (by decide) (by omega) (e83o) ?_
      refine z_pushJ gp_254_32 ?_
      refine z_icmp_ne gi_254_33 (by omega) zrn_1 (fun h3 => ?_) (fun h3 => ?_)
      · refine z_aload0 gi_254_39 ?_
        refine z_getR (r := 83) gi_254_40 gk_50 (hRr _ rm_50_58 (by decide)) ?_
        refine z_iload1 gi_254_43 ?_
        refine z_iald (v := (-2) - (J (38 + 2 * s.toNat) 2)) gi_254_44 gk_83 (by decide) (by omega) (e83) ?_
        refine z_if_ge gi_254_45 (by omega) (fun h4 => ?_) (fun h4 => ?_)
        · refine z_pushJ gp_254_63 ?_
          refine z_iret gi_254_65 gr_254 ?_
          refine ⟨?_, ?_⟩
          · first | rfl | exact congrArg (fun v => some (zi v)) (by omega) | (exfalso; omega)
          · exact hr
        · refine z_aload0 gi_254_48 ?_
          refine z_getR (r := 83) gi_254_49 gk_50 (hRr _ rm_50_58 (by decide)) ?_
          refine z_iload1 gi_254_52 ?_
          refine z_iald (v := (-2) - (J (38 + 2 * s.toNat) 2)) gi_254_53 gk_83 (by decide) (by omega) (e83) ?_
          refine z_aload0 gi_254_54 ?_
          refine z_getR (r := 83) gi_254_55 gk_50 (hRr _ rm_50_58 (by decide)) ?_
          refine z_iload3 gi_254_58 ?_
          refine z_iald (v := (-2) - (J (38 + 2 * o.toNat) 2)) gi_254_59 gk_83 (by decide) (by omega) (e83o) ?_
          refine z_icmp_eq gi_254_60 (by omega) (by omega) (fun h5 => ?_) (fun h5 => ?_)
          · refine z_iload5 gi_254_66 ?_
            refine z_if_lt gi_254_68 (by omega) (fun h6 => ?_) (fun h6 => ?_)
            · refine z_pushJ gp_254_107 ?_
              refine z_iret gi_254_109 gr_254 ?_
              refine ⟨?_, ?_⟩
              · first | rfl | exact congrArg (fun v => some (zi v)) (by omega) | (exfalso; omega)
              · exact hr
            · refine z_iload2 gi_254_71 ?_
              refine z_if_lt gi_254_72 (by omega) (fun h7 => ?_) (fun h7 => ?_)
              · refine z_pushJ gp_254_107 ?_
                refine z_iret gi_254_109 gr_254 ?_
                refine ⟨?_, ?_⟩
                · first | rfl | exact congrArg (fun v => some (zi v)) (by omega) | (exfalso; omega)
                · exact hr
              · refine z_iload4 gi_254_75 ?_
                refine z_if_lt gi_254_77 (by omega) (fun h8 => ?_) (fun h8 => ?_)
                · refine z_pushJ gp_254_107 ?_
                  refine z_iret gi_254_109 gr_254 ?_
                  refine ⟨?_, ?_⟩
                  · first | rfl | exact congrArg (fun v => some (zi v)) (by omega) | (exfalso; omega)
                  · exact hr
                · refine z_iload2 gi_254_80 ?_
                  refine z_aload0 gi_254_81 ?_
                  refine z_getR (r := 84) gi_254_82 gk_50 (hRr _ rm_50_59 (by decide)) ?_
                  refine z_iload1 gi_254_85 ?_
                  refine z_iald (v := J (38 + 2 * s.toNat) 3) gi_254_86 gk_84 (by decide) (by omega) (s7) ?_
                  refine z_iload5 gi_254_87 ?_
                  refine z_isub (e := (J (38 + 2 * s.toNat) 3) - n) gi_254_89 rfl ?_
                  refine z_icmp_gt gi_254_90 (by omega) (by omega) (fun h9 => ?_) (fun h9 => ?_)
                  · refine z_pushJ gp_254_107 ?_
                    refine z_iret gi_254_109 gr_254 ?_
                    refine ⟨?_, ?_⟩
                    · first | rfl | exact congrArg (fun v => some (zi v)) (by omega) | (exfalso; omega)
                    · exact hr
                  · refine z_iload4 gi_254_93 ?_
                    refine z_aload0 gi_254_95 ?_
                    refine z_getR (r := 84) gi_254_96 gk_50 (hRr _ rm_50_59 (by decide)) ?_
                    refine z_iload3 gi_254_99 ?_
                    refine z_iald (v := J (38 + 2 * o.toNat) 3) gi_254_100 gk_84 (by decide) (by omega) (s7o) ?_
                    refine z_iload5 gi_254_101 ?_
                    refine z_isub (e := (J (38 + 2 * o.toNat) 3) - n) gi_254_103 rfl ?_
                    refine z_icmp_le gi_254_104 (by omega) (by omega) (fun h10 => ?_) (fun h10 => ?_)
                    · refine z_pushJ gp_254_110 ?_
                      refine z_istore (ls1 := [some (.ref 50), some (zi s), some (zi i), some (zi o), some (zi j), some (zi n), some (zi 0)]) gi_254_111 rfl ?_
                      show zW _ _ _ _ [some (.ref 50), some (zi s), some (zi i), some (zi o), some (zi j), some (zi n), some (zi 0)] [] _ _ _ _
                      refine shift1_k hRr (by omega) (by omega) ?_
                      refine z_pushJ gp_254_147 ?_
                      refine z_istore (ls1 := [some (.ref 50), some (zi s), some (zi i), some (zi o), some (zi j), some (zi n), some (zi 0)]) gi_254_148 rfl ?_
                      show zW _ _ _ _ [some (.ref 50), some (zi s), some (zi i), some (zi o), some (zi j), some (zi n), some (zi 0)] [] _ _ _ _
                      refine shift2_k hRr (by omega) (by omega) ?_
                      refine z_iload5 gi_254_185 ?_
                      refine z_iret gi_254_187 gr_254 ?_
                      refine ⟨?_, ?_⟩
                      · exfalso
                        omega
                      · exfalso
                        omega
                    · refine z_pushJ gp_254_107 ?_
                      refine z_iret gi_254_109 gr_254 ?_
                      refine ⟨?_, ?_⟩
                      · first | rfl | exact congrArg (fun v => some (zi v)) (by omega) | (exfalso; omega)
                      · exact hr
          · refine z_pushJ gp_254_63 ?_
            refine z_iret gi_254_65 gr_254 ?_
            refine ⟨?_, ?_⟩
            · first | rfl | exact congrArg (fun v => some (zi v)) (by omega) | (exfalso; omega)
            · exact hr
      · refine z_pushJ gp_254_36 ?_
        refine z_iret gi_254_38 gr_254 ?_
        refine ⟨?_, ?_⟩
        · first | rfl | exact congrArg (fun v => some (zi v)) (by omega) | (exfalso; omega)
        · exact hr
  · refine z_pushJ gp_65_27 ?_
    refine z_goto rfl ?_
    refine z_bret1 gi_65_32 gr_65 ?_
    show zW _ _ _ _ _ _ _ _ _ _
    refine z_if_neT gi_140_58 zr_1 (by decide) ?_
    refine z_iload5 rfl ?_
    refine z_if_lt rfl (by omega) (fun h2 => ?_) (fun h2 => ?_)
    · refine z_pushJ gp_140_92 ?_
      refine z_iret gi_140_94 gr_140 ?_
      refine ⟨_, rfl, ?_⟩
      show zW _ _ _ _ [some (.ref 50), some (zi s), some (zi i), some (zi o), some (zi j), some (zi n), none] _ _ _ _ _
      refine z_iload1 gi_254_0 ?_
      refine z_cS1 gi_254_1 (Nat.le_of_ble_eq_true rfl) gc_248_I ?_
      refine z_iload0 gi_248_0 ?_
      refine z_pushJ gp_248_1 ?_
      refine z_pushJ gp_248_2 ?_
      refine z_cS3 gi_248_3 (Nat.le_of_ble_eq_true rfl) gc_148_III ?_
      refine z_iload0 gi_148_0 ?_
      refine z_iload1 gi_148_1 ?_
      refine z_icmp_ltF gi_148_2 (by omega) zr_0 (by omega) ?_
      refine z_iload0 gi_148_5 ?_
      refine z_iload2 gi_148_6 ?_
      refine z_icmp_gtF gi_148_7 (by omega) zr_5 (by omega) ?_
      refine z_pushJ gp_148_10 ?_
      refine z_goto gi_148_11 ?_
      refine z_bret1 gi_148_15 gr_148 ?_
      show zW _ _ _ _ _ _ _ _ _ _
      refine z_bret1 gi_248_6 gr_248 ?_
      show zW _ _ _ _ _ _ _ _ _ _
      refine z_if_eqF gi_254_4 zr_1 (by decide) ?_
      refine z_iload3 gi_254_7 ?_
      refine z_cS1 gi_254_8 (Nat.le_of_ble_eq_true rfl) gc_248_I ?_
      refine z_iload0 gi_248_0 ?_
      refine z_pushJ gp_248_1 ?_
      refine z_pushJ gp_248_2 ?_
      refine z_cS3 gi_248_3 (Nat.le_of_ble_eq_true rfl) gc_148_III ?_
      refine z_iload0 gi_148_0 ?_
      refine z_iload1 gi_148_1 ?_
      refine z_icmp_ltF gi_148_2 (by omega) zr_0 (by omega) ?_
      refine z_iload0 gi_148_5 ?_
      refine z_iload2 gi_148_6 ?_
      refine z_icmp_gtF gi_148_7 (by omega) zr_5 (by omega) ?_
      refine z_pushJ gp_148_10 ?_
      refine z_goto gi_148_11 ?_
      refine z_bret1 gi_148_15 gr_148 ?_
      show zW _ _ _ _ _ _ _ _ _ _
      refine z_bret1 gi_248_6 gr_248 ?_
      show zW _ _ _ _ _ _ _ _ _ _
      refine z_if_neT gi_254_11 zr_1 (by decide) ?_
      refine z_aload0 gi_254_16 ?_
      refine z_getR (r := 83) gi_254_17 gk_50 (hRr _ rm_50_58 (by decide)) ?_
      refine z_iload1 gi_254_20 ?_
      refine z_iald (v := (-2) - (J (38 + 2 * s.toNat) 2)) gi_254_21 gk_83 (by decide) (by omega) (e83) ?_
      refine z_pushJ gp_254_22 ?_
      refine z_icmp_eq gi_254_23 (by omega) zrn_1 (fun h3 => ?_) (fun h3 => ?_)
      · refine z_pushJ gp_254_36 ?_
        refine z_iret gi_254_38 gr_254 ?_
        refine ⟨?_, ?_⟩
        · first | rfl | exact congrArg (fun v => some (zi v)) (by omega) | (exfalso; omega)
        · exact hr
      · refine z_aload0 gi_254_26 ?_
        refine z_getR (r := 83) gi_254_27 gk_50 (hRr _ rm_50_58 (by decide)) ?_
        refine z_iload3 gi_254_30 ?_
        refine z_iald (v := (-2) - (J (38 + 2 * o.toNat) 2)) gi_254_31 gk_83 (by decide) (by omega) (e83o) ?_
        refine z_pushJ gp_254_32 ?_
        refine z_icmp_ne gi_254_33 (by omega) zrn_1 (fun h4 => ?_) (fun h4 => ?_)
        · refine z_aload0 gi_254_39 ?_
          refine z_getR (r := 83) gi_254_40 gk_50 (hRr _ rm_50_58 (by decide)) ?_
          refine z_iload1 gi_254_43 ?_
          refine z_iald (v := (-2) - (J (38 + 2 * s.toNat) 2)) gi_254_44 gk_83 (by decide) (by omega) (e83) ?_
          refine z_if_ge gi_254_45 (by omega) (fun h5 => ?_) (fun h5 => ?_)
          · refine z_pushJ gp_254_63 ?_
            refine z_iret gi_254_65 gr_254 ?_
            refine ⟨?_, ?_⟩
            · first | rfl | exact congrArg (fun v => some (zi v)) (by omega) | (exfalso; omega)
            · exact hr
          · refine z_aload0 gi_254_48 ?_
            refine z_getR (r := 83) gi_254_49 gk_50 (hRr _ rm_50_58 (by decide)) ?_
            refine z_iload1 gi_254_52 ?_
            refine z_iald (v := (-2) - (J (38 + 2 * s.toNat) 2)) gi_254_53 gk_83 (by decide) (by omega) (e83) ?_
            refine z_aload0 gi_254_54 ?_
            refine z_getR (r := 83) gi_254_55 gk_50 (hRr _ rm_50_58 (by decide)) ?_
            refine z_iload3 gi_254_58 ?_
            refine z_iald (v := (-2) - (J (38 + 2 * o.toNat) 2)) gi_254_59 gk_83 (by decide) (by omega) (e83o) ?_
            refine z_icmp_eqT gi_254_60 (by omega) (by omega) (by omega) ?_
            refine z_iload5 gi_254_66 ?_
            refine z_if_ltT gi_254_68 (by omega) (by omega) ?_
            refine z_pushJ gp_254_107 ?_
            refine z_iret gi_254_109 gr_254 ?_
            refine ⟨?_, ?_⟩
            · first | rfl | exact congrArg (fun v => some (zi v)) (by omega) | (exfalso; omega)
            · exact hr
        · refine z_pushJ gp_254_36 ?_
          refine z_iret gi_254_38 gr_254 ?_
          refine ⟨?_, ?_⟩
          · first | rfl | exact congrArg (fun v => some (zi v)) (by omega) | (exfalso; omega)
          · exact hr
    · refine z_aload6 rfl ?_
      refine z_iload2 rfl ?_
      refine z_iload5 rfl ?_
      refine z_callVi (As := [_, _]) (le := [some _, some _, some _]) rfl rfl (zk_shelf (by omega)) (Nat.le_of_ble_eq_true rfl) (Nat.le_of_ble_eq_true rfl) rfl ?_
      refine z_iload1 gi_71_0 ?_
      refine z_if_lt gi_71_1 (by omega) (fun h3 => ?_) (fun h3 => ?_)
      · refine z_pushJ gp_71_22 ?_
        refine z_bret0 gi_71_23 gr_71 ?_
        show zW _ _ _ _ _ _ _ _ _ _
        refine z_if_eqT gi_140_77 zr_0 (by decide) ?_
        refine z_pushJ gp_140_92 ?_
        refine z_iret gi_140_94 gr_140 ?_
        refine ⟨_, rfl, ?_⟩
        show zW _ _ _ _ [some (.ref 50), some (zi s), some (zi i), some (zi o), some (zi j), some (zi n), none] _ _ _ _ _
        refine z_iload1 gi_254_0 ?_
        refine z_cS1 gi_254_1 (Nat.le_of_ble_eq_true rfl) gc_248_I ?_
        refine z_iload0 gi_248_0 ?_
        refine z_pushJ gp_248_1 ?_
        refine z_pushJ gp_248_2 ?_
        refine z_cS3 gi_248_3 (Nat.le_of_ble_eq_true rfl) gc_148_III ?_
        refine z_iload0 gi_148_0 ?_
        refine z_iload1 gi_148_1 ?_
        refine z_icmp_ltF gi_148_2 (by omega) zr_0 (by omega) ?_
        refine z_iload0 gi_148_5 ?_
        refine z_iload2 gi_148_6 ?_
        refine z_icmp_gtF gi_148_7 (by omega) zr_5 (by omega) ?_
        refine z_pushJ gp_148_10 ?_
        refine z_goto gi_148_11 ?_
        refine z_bret1 gi_148_15 gr_148 ?_
        show zW _ _ _ _ _ _ _ _ _ _
        refine z_bret1 gi_248_6 gr_248 ?_
        show zW _ _ _ _ _ _ _ _ _ _
        refine z_if_eqF gi_254_4 zr_1 (by decide) ?_
        refine z_iload3 gi_254_7 ?_
        refine z_cS1 gi_254_8 (Nat.le_of_ble_eq_true rfl) gc_248_I ?_
        refine z_iload0 gi_248_0 ?_
        refine z_pushJ gp_248_1 ?_
        refine z_pushJ gp_248_2 ?_
        refine z_cS3 gi_248_3 (Nat.le_of_ble_eq_true rfl) gc_148_III ?_
        refine z_iload0 gi_148_0 ?_
        refine z_iload1 gi_148_1 ?_
        refine z_icmp_ltF gi_148_2 (by omega) zr_0 (by omega) ?_
        refine z_iload0 gi_148_5 ?_
        refine z_iload2 gi_148_6 ?_
        refine z_icmp_gtF gi_148_7 (by omega) zr_5 (by omega) ?_
        refine z_pushJ gp_148_10 ?_
        refine z_goto gi_148_11 ?_
        refine z_bret1 gi_148_15 gr_148 ?_
        show zW _ _ _ _ _ _ _ _ _ _
        refine z_bret1 gi_248_6 gr_248 ?_
        show zW _ _ _ _ _ _ _ _ _ _
        refine z_if_neT gi_254_11 zr_1 (by decide) ?_
        refine z_aload0 gi_254_16 ?_
        refine z_getR (r := 83) gi_254_17 gk_50 (hRr _ rm_50_58 (by decide)) ?_
        refine z_iload1 gi_254_20 ?_
        refine z_iald (v := (-2) - (J (38 + 2 * s.toNat) 2)) gi_254_21 gk_83 (by decide) (by omega) (e83) ?_
        refine z_pushJ gp_254_22 ?_
        refine z_icmp_eq gi_254_23 (by omega) zrn_1 (fun h4 => ?_) (fun h4 => ?_)
        · refine z_pushJ gp_254_36 ?_
          refine z_iret gi_254_38 gr_254 ?_
          refine ⟨?_, ?_⟩
          · first | rfl | exact congrArg (fun v => some (zi v)) (by omega) | (exfalso; omega)
          · exact hr
        · refine z_aload0 gi_254_26 ?_
          refine z_getR (r := 83) gi_254_27 gk_50 (hRr _ rm_50_58 (by decide)) ?_
          refine z_iload3 gi_254_30 ?_
          refine z_iald (v := (-2) - (J (38 + 2 * o.toNat) 2)) gi_254_31 gk_83 (by decide) (by omega) (e83o) ?_
          refine z_pushJ gp_254_32 ?_
          refine z_icmp_ne gi_254_33 (by omega) zrn_1 (fun h5 => ?_) (fun h5 => ?_)
          · refine z_aload0 gi_254_39 ?_
            refine z_getR (r := 83) gi_254_40 gk_50 (hRr _ rm_50_58 (by decide)) ?_
            refine z_iload1 gi_254_43 ?_
            refine z_iald (v := (-2) - (J (38 + 2 * s.toNat) 2)) gi_254_44 gk_83 (by decide) (by omega) (e83) ?_
            refine z_if_ge gi_254_45 (by omega) (fun h6 => ?_) (fun h6 => ?_)
            · refine z_pushJ gp_254_63 ?_
              refine z_iret gi_254_65 gr_254 ?_
              refine ⟨?_, ?_⟩
              · first | rfl | exact congrArg (fun v => some (zi v)) (by omega) | (exfalso; omega)
              · exact hr
            · refine z_aload0 gi_254_48 ?_
              refine z_getR (r := 83) gi_254_49 gk_50 (hRr _ rm_50_58 (by decide)) ?_
              refine z_iload1 gi_254_52 ?_
              refine z_iald (v := (-2) - (J (38 + 2 * s.toNat) 2)) gi_254_53 gk_83 (by decide) (by omega) (e83) ?_
              refine z_aload0 gi_254_54 ?_
              refine z_getR (r := 83) gi_254_55 gk_50 (hRr _ rm_50_58 (by decide)) ?_
              refine z_iload3 gi_254_58 ?_
              refine z_iald (v := (-2) - (J (38 + 2 * o.toNat) 2)) gi_254_59 gk_83 (by decide) (by omega) (e83o) ?_
              refine z_icmp_eqT gi_254_60 (by omega) (by omega) (by omega) ?_
              refine z_iload5 gi_254_66 ?_
              refine z_if_ltF gi_254_68 (by omega) (by omega) ?_
              refine z_iload2 gi_254_71 ?_
              refine z_if_ltT gi_254_72 (by omega) (by omega) ?_
              refine z_pushJ gp_254_107 ?_
              refine z_iret gi_254_109 gr_254 ?_
              refine ⟨?_, ?_⟩
              · first | rfl | exact congrArg (fun v => some (zi v)) (by omega) | (exfalso; omega)
              · exact hr
          · refine z_pushJ gp_254_36 ?_
            refine z_iret gi_254_38 gr_254 ?_
            refine ⟨?_, ?_⟩
            · first | rfl | exact congrArg (fun v => some (zi v)) (by omega) | (exfalso; omega)
            · exact hr
      · refine z_iload2 gi_71_4 ?_
        refine z_if_ltF gi_71_5 (by omega) (by omega) ?_
        refine z_iload1 gi_71_8 ?_
        refine z_aload0 gi_71_9 ?_
        refine z_getI (v := J (38 + 2 * s.toNat) 3) gi_71_10 (zk_shelf (by omega)) (rfl) ?_
        refine z_iload2 gi_71_13 ?_
        refine z_isub (e := (J (38 + 2 * s.toNat) 3) - n) gi_71_14 rfl ?_
        refine z_icmp_gt gi_71_15 (by omega) (by omega) (fun h4 => ?_) (fun h4 => ?_)
        · refine z_pushJ gp_71_22 ?_
          refine z_bret0 gi_71_23 gr_71 ?_
          show zW _ _ _ _ _ _ _ _ _ _
          refine z_if_eqT gi_140_77 zr_0 (by decide) ?_
          refine z_pushJ gp_140_92 ?_
          refine z_iret gi_140_94 gr_140 ?_
          refine ⟨_, rfl, ?_⟩
          show zW _ _ _ _ [some (.ref 50), some (zi s), some (zi i), some (zi o), some (zi j), some (zi n), none] _ _ _ _ _
          refine z_iload1 gi_254_0 ?_
          refine z_cS1 gi_254_1 (Nat.le_of_ble_eq_true rfl) gc_248_I ?_
          refine z_iload0 gi_248_0 ?_
          refine z_pushJ gp_248_1 ?_
          refine z_pushJ gp_248_2 ?_
          refine z_cS3 gi_248_3 (Nat.le_of_ble_eq_true rfl) gc_148_III ?_
          refine z_iload0 gi_148_0 ?_
          refine z_iload1 gi_148_1 ?_
          refine z_icmp_ltF gi_148_2 (by omega) zr_0 (by omega) ?_
          refine z_iload0 gi_148_5 ?_
          refine z_iload2 gi_148_6 ?_
          refine z_icmp_gtF gi_148_7 (by omega) zr_5 (by omega) ?_
          refine z_pushJ gp_148_10 ?_
          refine z_goto gi_148_11 ?_
          refine z_bret1 gi_148_15 gr_148 ?_
          show zW _ _ _ _ _ _ _ _ _ _
          refine z_bret1 gi_248_6 gr_248 ?_
          show zW _ _ _ _ _ _ _ _ _ _
          refine z_if_eqF gi_254_4 zr_1 (by decide) ?_
          refine z_iload3 gi_254_7 ?_
          refine z_cS1 gi_254_8 (Nat.le_of_ble_eq_true rfl) gc_248_I ?_
          refine z_iload0 gi_248_0 ?_
          refine z_pushJ gp_248_1 ?_
          refine z_pushJ gp_248_2 ?_
          refine z_cS3 gi_248_3 (Nat.le_of_ble_eq_true rfl) gc_148_III ?_
          refine z_iload0 gi_148_0 ?_
          refine z_iload1 gi_148_1 ?_
          refine z_icmp_ltF gi_148_2 (by omega) zr_0 (by omega) ?_
          refine z_iload0 gi_148_5 ?_
          refine z_iload2 gi_148_6 ?_
          refine z_icmp_gtF gi_148_7 (by omega) zr_5 (by omega) ?_
          refine z_pushJ gp_148_10 ?_
          refine z_goto gi_148_11 ?_
          refine z_bret1 gi_148_15 gr_148 ?_
          show zW _ _ _ _ _ _ _ _ _ _
          refine z_bret1 gi_248_6 gr_248 ?_
          show zW _ _ _ _ _ _ _ _ _ _
          refine z_if_neT gi_254_11 zr_1 (by decide) ?_
          refine z_aload0 gi_254_16 ?_
          refine z_getR (r := 83) gi_254_17 gk_50 (hRr _ rm_50_58 (by decide)) ?_
          refine z_iload1 gi_254_20 ?_
          refine z_iald (v := (-2) - (J (38 + 2 * s.toNat) 2)) gi_254_21 gk_83 (by decide) (by omega) (e83) ?_
          refine z_pushJ gp_254_22 ?_
          refine z_icmp_eq gi_254_23 (by omega) zrn_1 (fun h5 => ?_) (fun h5 => ?_)
          · refine z_pushJ gp_254_36 ?_
            refine z_iret gi_254_38 gr_254 ?_
            refine ⟨?_, ?_⟩
            · first | rfl | exact congrArg (fun v => some (zi v)) (by omega) | (exfalso; omega)
            · exact hr
          · refine z_aload0 gi_254_26 ?_
            refine z_getR (r := 83) gi_254_27 gk_50 (hRr _ rm_50_58 (by decide)) ?_
            refine z_iload3 gi_254_30 ?_
            refine z_iald (v := (-2) - (J (38 + 2 * o.toNat) 2)) gi_254_31 gk_83 (by decide) (by omega) (e83o) ?_
            refine z_pushJ gp_254_32 ?_
            refine z_icmp_ne gi_254_33 (by omega) zrn_1 (fun h6 => ?_) (fun h6 => ?_)
            · refine z_aload0 gi_254_39 ?_
              refine z_getR (r := 83) gi_254_40 gk_50 (hRr _ rm_50_58 (by decide)) ?_
              refine z_iload1 gi_254_43 ?_
              refine z_iald (v := (-2) - (J (38 + 2 * s.toNat) 2)) gi_254_44 gk_83 (by decide) (by omega) (e83) ?_
              refine z_if_ge gi_254_45 (by omega) (fun h7 => ?_) (fun h7 => ?_)
              · refine z_pushJ gp_254_63 ?_
                refine z_iret gi_254_65 gr_254 ?_
                refine ⟨?_, ?_⟩
                · first | rfl | exact congrArg (fun v => some (zi v)) (by omega) | (exfalso; omega)
                · exact hr
              · refine z_aload0 gi_254_48 ?_
                refine z_getR (r := 83) gi_254_49 gk_50 (hRr _ rm_50_58 (by decide)) ?_
                refine z_iload1 gi_254_52 ?_
                refine z_iald (v := (-2) - (J (38 + 2 * s.toNat) 2)) gi_254_53 gk_83 (by decide) (by omega) (e83) ?_
                refine z_aload0 gi_254_54 ?_
                refine z_getR (r := 83) gi_254_55 gk_50 (hRr _ rm_50_58 (by decide)) ?_
                refine z_iload3 gi_254_58 ?_
                refine z_iald (v := (-2) - (J (38 + 2 * o.toNat) 2)) gi_254_59 gk_83 (by decide) (by omega) (e83o) ?_
                refine z_icmp_eqT gi_254_60 (by omega) (by omega) (by omega) ?_
                refine z_iload5 gi_254_66 ?_
                refine z_if_ltF gi_254_68 (by omega) (by omega) ?_
                refine z_iload2 gi_254_71 ?_
                refine z_if_ltF gi_254_72 (by omega) (by omega) ?_
                refine z_iload4 gi_254_75 ?_
                refine z_if_lt gi_254_77 (by omega) (fun h8 => ?_) (fun h8 => ?_)
                · refine z_pushJ gp_254_107 ?_
                  refine z_iret gi_254_109 gr_254 ?_
                  refine ⟨?_, ?_⟩
                  · first | rfl | exact congrArg (fun v => some (zi v)) (by omega) | (exfalso; omega)
                  · exact hr
                · refine z_iload2 gi_254_80 ?_
                  refine z_aload0 gi_254_81 ?_
                  refine z_getR (r := 84) gi_254_82 gk_50 (hRr _ rm_50_59 (by decide)) ?_
                  refine z_iload1 gi_254_85 ?_
                  refine z_iald (v := J (38 + 2 * s.toNat) 3) gi_254_86 gk_84 (by decide) (by omega) (s7) ?_
                  refine z_iload5 gi_254_87 ?_
                  refine z_isub (e := (J (38 + 2 * s.toNat) 3) - n) gi_254_89 rfl ?_
                  refine z_icmp_gtT gi_254_90 (by omega) (by omega) (by omega) ?_
                  refine z_pushJ gp_254_107 ?_
                  refine z_iret gi_254_109 gr_254 ?_
                  refine ⟨?_, ?_⟩
                  · first | rfl | exact congrArg (fun v => some (zi v)) (by omega) | (exfalso; omega)
                  · exact hr
            · refine z_pushJ gp_254_36 ?_
              refine z_iret gi_254_38 gr_254 ?_
              refine ⟨?_, ?_⟩
              · first | rfl | exact congrArg (fun v => some (zi v)) (by omega) | (exfalso; omega)
              · exact hr
        · refine z_pushJ gp_71_18 ?_
          refine z_goto gi_71_19 ?_
          refine z_bret1 gi_71_23 gr_71 ?_
          show zW _ _ _ _ _ _ _ _ _ _
          refine z_if_eqF gi_140_77 zr_1 (by decide) ?_
          refine z_aload7 rfl ?_
          refine z_iload4 rfl ?_
          refine z_iload5 rfl ?_
          refine z_callVi (As := [_, _]) (le := [some _, some _, some _]) rfl rfl (zk_shelf (by omega)) (Nat.le_of_ble_eq_true rfl) (Nat.le_of_ble_eq_true rfl) rfl ?_
          refine z_iload1 gi_71_0 ?_
          refine z_if_lt gi_71_1 (by omega) (fun h5 => ?_) (fun h5 => ?_)
          · refine z_pushJ gp_71_22 ?_
            refine z_bret0 gi_71_23 gr_71 ?_
            show zW _ _ _ _ _ _ _ _ _ _
            refine z_if_neF gi_140_89 zr_0 (by decide) ?_
            refine z_pushJ gp_140_92 ?_
            refine z_iret gi_140_94 gr_140 ?_
            refine ⟨_, rfl, ?_⟩
            show zW _ _ _ _ [some (.ref 50), some (zi s), some (zi i), some (zi o), some (zi j), some (zi n), none] _ _ _ _ _
            refine z_iload1 gi_254_0 ?_
            refine z_cS1 gi_254_1 (Nat.le_of_ble_eq_true rfl) gc_248_I ?_
            refine z_iload0 gi_248_0 ?_
            refine z_pushJ gp_248_1 ?_
            refine z_pushJ gp_248_2 ?_
            refine z_cS3 gi_248_3 (Nat.le_of_ble_eq_true rfl) gc_148_III ?_
            refine z_iload0 gi_148_0 ?_
            refine z_iload1 gi_148_1 ?_
            refine z_icmp_ltF gi_148_2 (by omega) zr_0 (by omega) ?_
            refine z_iload0 gi_148_5 ?_
            refine z_iload2 gi_148_6 ?_
            refine z_icmp_gtF gi_148_7 (by omega) zr_5 (by omega) ?_
            refine z_pushJ gp_148_10 ?_
            refine z_goto gi_148_11 ?_
            refine z_bret1 gi_148_15 gr_148 ?_
            show zW _ _ _ _ _ _ _ _ _ _
            refine z_bret1 gi_248_6 gr_248 ?_
            show zW _ _ _ _ _ _ _ _ _ _
            refine z_if_eqF gi_254_4 zr_1 (by decide) ?_
            refine z_iload3 gi_254_7 ?_
            refine z_cS1 gi_254_8 (Nat.le_of_ble_eq_true rfl) gc_248_I ?_
            refine z_iload0 gi_248_0 ?_
            refine z_pushJ gp_248_1 ?_
            refine z_pushJ gp_248_2 ?_
            refine z_cS3 gi_248_3 (Nat.le_of_ble_eq_true rfl) gc_148_III ?_
            refine z_iload0 gi_148_0 ?_
            refine z_iload1 gi_148_1 ?_
            refine z_icmp_ltF gi_148_2 (by omega) zr_0 (by omega) ?_
            refine z_iload0 gi_148_5 ?_
            refine z_iload2 gi_148_6 ?_
            refine z_icmp_gtF gi_148_7 (by omega) zr_5 (by omega) ?_
            refine z_pushJ gp_148_10 ?_
            refine z_goto gi_148_11 ?_
            refine z_bret1 gi_148_15 gr_148 ?_
            show zW _ _ _ _ _ _ _ _ _ _
            refine z_bret1 gi_248_6 gr_248 ?_
            show zW _ _ _ _ _ _ _ _ _ _
            refine z_if_neT gi_254_11 zr_1 (by decide) ?_
            refine z_aload0 gi_254_16 ?_
            refine z_getR (r := 83) gi_254_17 gk_50 (hRr _ rm_50_58 (by decide)) ?_
            refine z_iload1 gi_254_20 ?_
            refine z_iald (v := (-2) - (J (38 + 2 * s.toNat) 2)) gi_254_21 gk_83 (by decide) (by omega) (e83) ?_
            refine z_pushJ gp_254_22 ?_
            refine z_icmp_eq gi_254_23 (by omega) zrn_1 (fun h6 => ?_) (fun h6 => ?_)
            · refine z_pushJ gp_254_36 ?_
              refine z_iret gi_254_38 gr_254 ?_
              refine ⟨?_, ?_⟩
              · first | rfl | exact congrArg (fun v => some (zi v)) (by omega) | (exfalso; omega)
              · exact hr
            · refine z_aload0 gi_254_26 ?_
              refine z_getR (r := 83) gi_254_27 gk_50 (hRr _ rm_50_58 (by decide)) ?_
              refine z_iload3 gi_254_30 ?_
              refine z_iald (v := (-2) - (J (38 + 2 * o.toNat) 2)) gi_254_31 gk_83 (by decide) (by omega) (e83o) ?_
              refine z_pushJ gp_254_32 ?_
              refine z_icmp_ne gi_254_33 (by omega) zrn_1 (fun h7 => ?_) (fun h7 => ?_)
              · refine z_aload0 gi_254_39 ?_
                refine z_getR (r := 83) gi_254_40 gk_50 (hRr _ rm_50_58 (by decide)) ?_
                refine z_iload1 gi_254_43 ?_
                refine z_iald (v := (-2) - (J (38 + 2 * s.toNat) 2)) gi_254_44 gk_83 (by decide) (by omega) (e83) ?_
                refine z_if_ge gi_254_45 (by omega) (fun h8 => ?_) (fun h8 => ?_)
                · refine z_pushJ gp_254_63 ?_
                  refine z_iret gi_254_65 gr_254 ?_
                  refine ⟨?_, ?_⟩
                  · first | rfl | exact congrArg (fun v => some (zi v)) (by omega) | (exfalso; omega)
                  · exact hr
                · refine z_aload0 gi_254_48 ?_
                  refine z_getR (r := 83) gi_254_49 gk_50 (hRr _ rm_50_58 (by decide)) ?_
                  refine z_iload1 gi_254_52 ?_
                  refine z_iald (v := (-2) - (J (38 + 2 * s.toNat) 2)) gi_254_53 gk_83 (by decide) (by omega) (e83) ?_
                  refine z_aload0 gi_254_54 ?_
                  refine z_getR (r := 83) gi_254_55 gk_50 (hRr _ rm_50_58 (by decide)) ?_
                  refine z_iload3 gi_254_58 ?_
                  refine z_iald (v := (-2) - (J (38 + 2 * o.toNat) 2)) gi_254_59 gk_83 (by decide) (by omega) (e83o) ?_
                  refine z_icmp_eqT gi_254_60 (by omega) (by omega) (by omega) ?_
                  refine z_iload5 gi_254_66 ?_
                  refine z_if_ltF gi_254_68 (by omega) (by omega) ?_
                  refine z_iload2 gi_254_71 ?_
                  refine z_if_ltF gi_254_72 (by omega) (by omega) ?_
                  refine z_iload4 gi_254_75 ?_
                  refine z_if_ltT gi_254_77 (by omega) (by omega) ?_
                  refine z_pushJ gp_254_107 ?_
                  refine z_iret gi_254_109 gr_254 ?_
                  refine ⟨?_, ?_⟩
                  · first | rfl | exact congrArg (fun v => some (zi v)) (by omega) | (exfalso; omega)
                  · exact hr
              · refine z_pushJ gp_254_36 ?_
                refine z_iret gi_254_38 gr_254 ?_
                refine ⟨?_, ?_⟩
                · first | rfl | exact congrArg (fun v => some (zi v)) (by omega) | (exfalso; omega)
                · exact hr
          · refine z_iload2 gi_71_4 ?_
            refine z_if_ltF gi_71_5 (by omega) (by omega) ?_
            refine z_iload1 gi_71_8 ?_
            refine z_aload0 gi_71_9 ?_
            refine z_getI (v := J (38 + 2 * o.toNat) 3) gi_71_10 (zk_shelf (by omega)) (rfl) ?_
            refine z_iload2 gi_71_13 ?_
            refine z_isub (e := (J (38 + 2 * o.toNat) 3) - n) gi_71_14 rfl ?_
            refine z_icmp_gt gi_71_15 (by omega) (by omega) (fun h6 => ?_) (fun h6 => ?_)
            · refine z_pushJ gp_71_22 ?_
              refine z_bret0 gi_71_23 gr_71 ?_
              show zW _ _ _ _ _ _ _ _ _ _
              refine z_if_neF gi_140_89 zr_0 (by decide) ?_
              refine z_pushJ gp_140_92 ?_
              refine z_iret gi_140_94 gr_140 ?_
              refine ⟨_, rfl, ?_⟩
              show zW _ _ _ _ [some (.ref 50), some (zi s), some (zi i), some (zi o), some (zi j), some (zi n), none] _ _ _ _ _
              refine z_iload1 gi_254_0 ?_
              refine z_cS1 gi_254_1 (Nat.le_of_ble_eq_true rfl) gc_248_I ?_
              refine z_iload0 gi_248_0 ?_
              refine z_pushJ gp_248_1 ?_
              refine z_pushJ gp_248_2 ?_
              refine z_cS3 gi_248_3 (Nat.le_of_ble_eq_true rfl) gc_148_III ?_
              refine z_iload0 gi_148_0 ?_
              refine z_iload1 gi_148_1 ?_
              refine z_icmp_ltF gi_148_2 (by omega) zr_0 (by omega) ?_
              refine z_iload0 gi_148_5 ?_
              refine z_iload2 gi_148_6 ?_
              refine z_icmp_gtF gi_148_7 (by omega) zr_5 (by omega) ?_
              refine z_pushJ gp_148_10 ?_
              refine z_goto gi_148_11 ?_
              refine z_bret1 gi_148_15 gr_148 ?_
              show zW _ _ _ _ _ _ _ _ _ _
              refine z_bret1 gi_248_6 gr_248 ?_
              show zW _ _ _ _ _ _ _ _ _ _
              refine z_if_eqF gi_254_4 zr_1 (by decide) ?_
              refine z_iload3 gi_254_7 ?_
              refine z_cS1 gi_254_8 (Nat.le_of_ble_eq_true rfl) gc_248_I ?_
              refine z_iload0 gi_248_0 ?_
              refine z_pushJ gp_248_1 ?_
              refine z_pushJ gp_248_2 ?_
              refine z_cS3 gi_248_3 (Nat.le_of_ble_eq_true rfl) gc_148_III ?_
              refine z_iload0 gi_148_0 ?_
              refine z_iload1 gi_148_1 ?_
              refine z_icmp_ltF gi_148_2 (by omega) zr_0 (by omega) ?_
              refine z_iload0 gi_148_5 ?_
              refine z_iload2 gi_148_6 ?_
              refine z_icmp_gtF gi_148_7 (by omega) zr_5 (by omega) ?_
              refine z_pushJ gp_148_10 ?_
              refine z_goto gi_148_11 ?_
              refine z_bret1 gi_148_15 gr_148 ?_
              show zW _ _ _ _ _ _ _ _ _ _
              refine z_bret1 gi_248_6 gr_248 ?_
              show zW _ _ _ _ _ _ _ _ _ _
              refine z_if_neT gi_254_11 zr_1 (by decide) ?_
              refine z_aload0 gi_254_16 ?_
              refine z_getR (r := 83) gi_254_17 gk_50 (hRr _ rm_50_58 (by decide)) ?_
              refine z_iload1 gi_254_20 ?_
              refine z_iald (v := (-2) - (J (38 + 2 * s.toNat) 2)) gi_254_21 gk_83 (by decide) (by omega) (e83) ?_
              refine z_pushJ gp_254_22 ?_
              refine z_icmp_eq gi_254_23 (by omega) zrn_1 (fun h7 => ?_) (fun h7 => ?_)
              · refine z_pushJ gp_254_36 ?_
                refine z_iret gi_254_38 gr_254 ?_
                refine ⟨?_, ?_⟩
                · first | rfl | exact congrArg (fun v => some (zi v)) (by omega) | (exfalso; omega)
                · exact hr
              · refine z_aload0 gi_254_26 ?_
                refine z_getR (r := 83) gi_254_27 gk_50 (hRr _ rm_50_58 (by decide)) ?_
                refine z_iload3 gi_254_30 ?_
                refine z_iald (v := (-2) - (J (38 + 2 * o.toNat) 2)) gi_254_31 gk_83 (by decide) (by omega) (e83o) ?_
                refine z_pushJ gp_254_32 ?_
                refine z_icmp_ne gi_254_33 (by omega) zrn_1 (fun h8 => ?_) (fun h8 => ?_)
                · refine z_aload0 gi_254_39 ?_
                  refine z_getR (r := 83) gi_254_40 gk_50 (hRr _ rm_50_58 (by decide)) ?_
                  refine z_iload1 gi_254_43 ?_
                  refine z_iald (v := (-2) - (J (38 + 2 * s.toNat) 2)) gi_254_44 gk_83 (by decide) (by omega) (e83) ?_
                  refine z_if_ge gi_254_45 (by omega) (fun h9 => ?_) (fun h9 => ?_)
                  · refine z_pushJ gp_254_63 ?_
                    refine z_iret gi_254_65 gr_254 ?_
                    refine ⟨?_, ?_⟩
                    · first | rfl | exact congrArg (fun v => some (zi v)) (by omega) | (exfalso; omega)
                    · exact hr
                  · refine z_aload0 gi_254_48 ?_
                    refine z_getR (r := 83) gi_254_49 gk_50 (hRr _ rm_50_58 (by decide)) ?_
                    refine z_iload1 gi_254_52 ?_
                    refine z_iald (v := (-2) - (J (38 + 2 * s.toNat) 2)) gi_254_53 gk_83 (by decide) (by omega) (e83) ?_
                    refine z_aload0 gi_254_54 ?_
                    refine z_getR (r := 83) gi_254_55 gk_50 (hRr _ rm_50_58 (by decide)) ?_
                    refine z_iload3 gi_254_58 ?_
                    refine z_iald (v := (-2) - (J (38 + 2 * o.toNat) 2)) gi_254_59 gk_83 (by decide) (by omega) (e83o) ?_
                    refine z_icmp_eqT gi_254_60 (by omega) (by omega) (by omega) ?_
                    refine z_iload5 gi_254_66 ?_
                    refine z_if_ltF gi_254_68 (by omega) (by omega) ?_
                    refine z_iload2 gi_254_71 ?_
                    refine z_if_ltF gi_254_72 (by omega) (by omega) ?_
                    refine z_iload4 gi_254_75 ?_
                    refine z_if_ltF gi_254_77 (by omega) (by omega) ?_
                    refine z_iload2 gi_254_80 ?_
                    refine z_aload0 gi_254_81 ?_
                    refine z_getR (r := 84) gi_254_82 gk_50 (hRr _ rm_50_59 (by decide)) ?_
                    refine z_iload1 gi_254_85 ?_
                    refine z_iald (v := J (38 + 2 * s.toNat) 3) gi_254_86 gk_84 (by decide) (by omega) (s7) ?_
                    refine z_iload5 gi_254_87 ?_
                    refine z_isub (e := (J (38 + 2 * s.toNat) 3) - n) gi_254_89 rfl ?_
                    refine z_icmp_gtF gi_254_90 (by omega) (by omega) (by omega) ?_
                    refine z_iload4 gi_254_93 ?_
                    refine z_aload0 gi_254_95 ?_
                    refine z_getR (r := 84) gi_254_96 gk_50 (hRr _ rm_50_59 (by decide)) ?_
                    refine z_iload3 gi_254_99 ?_
                    refine z_iald (v := J (38 + 2 * o.toNat) 3) gi_254_100 gk_84 (by decide) (by omega) (s7o) ?_
                    refine z_iload5 gi_254_101 ?_
                    refine z_isub (e := (J (38 + 2 * o.toNat) 3) - n) gi_254_103 rfl ?_
                    refine z_icmp_leF gi_254_104 (by omega) (by omega) (by omega) ?_
                    refine z_pushJ gp_254_107 ?_
                    refine z_iret gi_254_109 gr_254 ?_
                    refine ⟨?_, ?_⟩
                    · first | rfl | exact congrArg (fun v => some (zi v)) (by omega) | (exfalso; omega)
                    · exact hr
                · refine z_pushJ gp_254_36 ?_
                  refine z_iret gi_254_38 gr_254 ?_
                  refine ⟨?_, ?_⟩
                  · first | rfl | exact congrArg (fun v => some (zi v)) (by omega) | (exfalso; omega)
                  · exact hr
            · refine z_pushJ gp_71_18 ?_
              refine z_goto gi_71_19 ?_
              refine z_bret1 gi_71_23 gr_71 ?_
              show zW _ _ _ _ _ _ _ _ _ _
              refine z_if_neT gi_140_89 zr_1 (by decide) ?_
              refine z_aload6 rfl ?_
              refine z_getR (r := 39 + 2 * s.toNat) rfl (zk_shelf (by omega)) (rr_cells hR (by omega)) ?_
              refine z_iload2 rfl ?_
              refine z_aload7 rfl ?_
              refine z_getR (r := 39 + 2 * o.toNat) rfl (zk_shelf (by omega)) (rr_cells hR (by omega)) ?_
              refine z_iload4 rfl ?_
              refine z_iload5 rfl ?_
              refine z_copyL rfl (zk_cells (by omega)) (zk_cells (by omega)) (by decide) (by decide) (by omega) (by omega) (by omega) (by omega) (by omega) (by decide) ?_
              refine z_iload5 rfl ?_
              refine z_iret rfl gr_140 ?_
              refine ⟨_, rfl, ?_⟩
              show zW _ _ _ _ [some (.ref 50), some (zi s), some (zi i), some (zi o), some (zi j), some (zi n), none] _ _ _ _ _
              refine z_iload1 gi_254_0 ?_
              refine z_cS1 gi_254_1 (Nat.le_of_ble_eq_true rfl) gc_248_I ?_
              refine z_iload0 gi_248_0 ?_
              refine z_pushJ gp_248_1 ?_
              refine z_pushJ gp_248_2 ?_
              refine z_cS3 gi_248_3 (Nat.le_of_ble_eq_true rfl) gc_148_III ?_
              refine z_iload0 gi_148_0 ?_
              refine z_iload1 gi_148_1 ?_
              refine z_icmp_ltF gi_148_2 (by omega) zr_0 (by omega) ?_
              refine z_iload0 gi_148_5 ?_
              refine z_iload2 gi_148_6 ?_
              refine z_icmp_gtF gi_148_7 (by omega) zr_5 (by omega) ?_
              refine z_pushJ gp_148_10 ?_
              refine z_goto gi_148_11 ?_
              refine z_bret1 gi_148_15 gr_148 ?_
              show zW _ _ _ _ _ _ _ _ _ _
              refine z_bret1 gi_248_6 gr_248 ?_
              show zW _ _ _ _ _ _ _ _ _ _
              refine z_if_eqF gi_254_4 zr_1 (by decide) ?_
              refine z_iload3 gi_254_7 ?_
              refine z_cS1 gi_254_8 (Nat.le_of_ble_eq_true rfl) gc_248_I ?_
              refine z_iload0 gi_248_0 ?_
              refine z_pushJ gp_248_1 ?_
              refine z_pushJ gp_248_2 ?_
              refine z_cS3 gi_248_3 (Nat.le_of_ble_eq_true rfl) gc_148_III ?_
              refine z_iload0 gi_148_0 ?_
              refine z_iload1 gi_148_1 ?_
              refine z_icmp_ltF gi_148_2 (by omega) zr_0 (by omega) ?_
              refine z_iload0 gi_148_5 ?_
              refine z_iload2 gi_148_6 ?_
              refine z_icmp_gtF gi_148_7 (by omega) zr_5 (by omega) ?_
              refine z_pushJ gp_148_10 ?_
              refine z_goto gi_148_11 ?_
              refine z_bret1 gi_148_15 gr_148 ?_
              show zW _ _ _ _ _ _ _ _ _ _
              refine z_bret1 gi_248_6 gr_248 ?_
              show zW _ _ _ _ _ _ _ _ _ _
              refine z_if_neT gi_254_11 zr_1 (by decide) ?_
              refine z_aload0 gi_254_16 ?_
              refine z_getR (r := 83) gi_254_17 gk_50 (hRr _ rm_50_58 (by decide)) ?_
              refine z_iload1 gi_254_20 ?_
              refine z_iald (v := (-2) - (J (38 + 2 * s.toNat) 2)) gi_254_21 gk_83 (by decide) (by omega) (e83) ?_
              refine z_pushJ gp_254_22 ?_
              refine z_icmp_eq gi_254_23 (by omega) zrn_1 (fun h7 => ?_) (fun h7 => ?_)
              · refine z_pushJ gp_254_36 ?_
                refine z_iret gi_254_38 gr_254 ?_
                refine ⟨?_, ?_⟩
                · exfalso
                  omega
                · exfalso
                  omega
              · refine z_aload0 gi_254_26 ?_
                refine z_getR (r := 83) gi_254_27 gk_50 (hRr _ rm_50_58 (by decide)) ?_
                refine z_iload3 gi_254_30 ?_
                refine z_iald (v := (-2) - (J (38 + 2 * o.toNat) 2)) gi_254_31 gk_83 (by decide) (by omega) (e83o) ?_
                refine z_pushJ gp_254_32 ?_
                refine z_icmp_ne gi_254_33 (by omega) zrn_1 (fun h8 => ?_) (fun h8 => ?_)
                · refine z_aload0 gi_254_39 ?_
                  refine z_getR (r := 83) gi_254_40 gk_50 (hRr _ rm_50_58 (by decide)) ?_
                  refine z_iload1 gi_254_43 ?_
                  refine z_iald (v := (-2) - (J (38 + 2 * s.toNat) 2)) gi_254_44 gk_83 (by decide) (by omega) (e83) ?_
                  refine z_if_ge gi_254_45 (by omega) (fun h9 => ?_) (fun h9 => ?_)
                  · refine z_pushJ gp_254_63 ?_
                    refine z_iret gi_254_65 gr_254 ?_
                    refine ⟨?_, ?_⟩
                    · exfalso
                      omega
                    · exfalso
                      omega
                  · refine z_aload0 gi_254_48 ?_
                    refine z_getR (r := 83) gi_254_49 gk_50 (hRr _ rm_50_58 (by decide)) ?_
                    refine z_iload1 gi_254_52 ?_
                    refine z_iald (v := (-2) - (J (38 + 2 * s.toNat) 2)) gi_254_53 gk_83 (by decide) (by omega) (e83) ?_
                    refine z_aload0 gi_254_54 ?_
                    refine z_getR (r := 83) gi_254_55 gk_50 (hRr _ rm_50_58 (by decide)) ?_
                    refine z_iload3 gi_254_58 ?_
                    refine z_iald (v := (-2) - (J (38 + 2 * o.toNat) 2)) gi_254_59 gk_83 (by decide) (by omega) (e83o) ?_
                    refine z_icmp_eqT gi_254_60 (by omega) (by omega) (by omega) ?_
                    refine z_iload5 gi_254_66 ?_
                    refine z_if_ltF gi_254_68 (by omega) (by omega) ?_
                    refine z_iload2 gi_254_71 ?_
                    refine z_if_ltF gi_254_72 (by omega) (by omega) ?_
                    refine z_iload4 gi_254_75 ?_
                    refine z_if_ltF gi_254_77 (by omega) (by omega) ?_
                    refine z_iload2 gi_254_80 ?_
                    refine z_aload0 gi_254_81 ?_
                    refine z_getR (r := 84) gi_254_82 gk_50 (hRr _ rm_50_59 (by decide)) ?_
                    refine z_iload1 gi_254_85 ?_
                    refine z_iald (v := J (38 + 2 * s.toNat) 3) gi_254_86 gk_84 (by decide) (by omega) (s7) ?_
                    refine z_iload5 gi_254_87 ?_
                    refine z_isub (e := (J (38 + 2 * s.toNat) 3) - n) gi_254_89 rfl ?_
                    refine z_icmp_gtF gi_254_90 (by omega) (by omega) (by omega) ?_
                    refine z_iload4 gi_254_93 ?_
                    refine z_aload0 gi_254_95 ?_
                    refine z_getR (r := 84) gi_254_96 gk_50 (hRr _ rm_50_59 (by decide)) ?_
                    refine z_iload3 gi_254_99 ?_
                    refine z_iald (v := J (38 + 2 * o.toNat) 3) gi_254_100 gk_84 (by decide) (by omega) (s7o) ?_
                    refine z_iload5 gi_254_101 ?_
                    refine z_isub (e := (J (38 + 2 * o.toNat) 3) - n) gi_254_103 rfl ?_
                    refine z_icmp_leT gi_254_104 (by omega) (by omega) (by omega) ?_
                    refine z_pushJ gp_254_110 ?_
                    refine z_istore (ls1 := [some (.ref 50), some (zi s), some (zi i), some (zi o), some (zi j), some (zi n), some (zi 0)]) gi_254_111 rfl ?_
                    show zW _ _ _ _ [some (.ref 50), some (zi s), some (zi i), some (zi o), some (zi j), some (zi n), some (zi 0)] [] _ _ _ _
                    refine shift1_k hRr (by omega) (by omega) ?_
                    refine z_pushJ gp_254_147 ?_
                    refine z_istore (ls1 := [some (.ref 50), some (zi s), some (zi i), some (zi o), some (zi j), some (zi n), some (zi 0)]) gi_254_148 rfl ?_
                    show zW _ _ _ _ [some (.ref 50), some (zi s), some (zi i), some (zi o), some (zi j), some (zi n), some (zi 0)] [] _ _ _ _
                    refine shift2_k hRr (by omega) (by omega) ?_
                    refine z_iload5 gi_254_185 ?_
                    refine z_iret gi_254_187 gr_254 ?_
                    refine ⟨?_, ?_⟩
                    · first | rfl | exact congrArg (fun v => some (zi v)) (by omega) | (exfalso; omega)
                    · exact ⟨hR, hG, hY, hD, hP, hC, hAc, RelS_shift hS hs6 ho6 hh (by omega) (by omega) (by omega) (by omega) (by omega) (by omega), hTp, hX, hW⟩
                · refine z_pushJ gp_254_36 ?_
                  refine z_iret gi_254_38 gr_254 ?_
                  refine ⟨?_, ?_⟩
                  · exfalso
                    omega
                  · exfalso
                    omega
theorem st_shift_n {X : Nat × (Nat → Int32)} {d : Nat} {J M : zA} {R : zR} {s i o j n : Int} (hr : Rel X J M R) (hs : -2147483648 ≤ s ∧ s < 2147483648) (hi : -2147483648 ≤ i ∧ i < 2147483648) (ho : -2147483648 ≤ o ∧ o < 2147483648) (hj : -2147483648 ≤ j ∧ j < 2147483648) (hn : -2147483648 ≤ n ∧ n < 2147483648) (hs6 : ¬ (0 ≤ s ∧ s < 6)) : zW X (d + 20) 140 0 (gEn 140 [(.ref 0), (zi s), (zi i), (zi o), (zi j), (zi n)]) [] J M R (stP X (d + 20) 254 [(zi s), (zi i), (zi o), (zi j), (zi n)]) := by
  have hr0 := hr
  obtain ⟨hR, hG, hY, hD, hP, hC, hAc, hS, hTp, hX, hW⟩ := hr0
  have hRr : zRoR R := zRoR_of hR
  show zW _ _ _ _ [some (.ref 0), some (zi s), some (zi i), some (zi o), some (zi j), some (zi n), none, none] _ _ _ _ _
  refine z_iload1 gi_140_0 ?_
  refine z_cS1 gi_140_1 (Nat.le_of_ble_eq_true rfl) gc_143_I ?_
  refine z_iload0 gi_143_0 ?_
  refine z_if_lt gi_143_1 (by omega) (fun h1 => ?_) (fun h1 => ?_)
  · refine z_pushJ gp_143_14 ?_
    refine z_bret0 gi_143_15 gr_143 ?_
    show zW _ _ _ _ _ _ _ _ _ _
    refine z_if_eqT gi_140_4 zr_0 (by decide) ?_
    refine z_pushJ gp_140_14 ?_
    refine z_iret gi_140_15 gr_140 ?_
    refine ⟨_, rfl, ?_⟩
    show zW _ _ _ _ [some (.ref 50), some (zi s), some (zi i), some (zi o), some (zi j), some (zi n), none] _ _ _ _ _
    refine z_iload1 gi_254_0 ?_
    refine z_cS1 gi_254_1 (Nat.le_of_ble_eq_true rfl) gc_248_I ?_
    refine z_iload0 gi_248_0 ?_
    refine z_pushJ gp_248_1 ?_
    refine z_pushJ gp_248_2 ?_
    refine z_cS3 gi_248_3 (Nat.le_of_ble_eq_true rfl) gc_148_III ?_
    refine z_iload0 gi_148_0 ?_
    refine z_iload1 gi_148_1 ?_
    refine z_icmp_ltT gi_148_2 (by omega) zr_0 (by omega) ?_
    refine z_pushJ gp_148_14 ?_
    refine z_bret0 gi_148_15 gr_148 ?_
    show zW _ _ _ _ _ _ _ _ _ _
    refine z_bret0 gi_248_6 gr_248 ?_
    show zW _ _ _ _ _ _ _ _ _ _
    refine z_if_eqT gi_254_4 zr_0 (by decide) ?_
    refine z_pushJ gp_254_14 ?_
    refine z_iret gi_254_15 gr_254 ?_
    refine ⟨?_, ?_⟩
    · first | rfl | exact congrArg (fun v => some (zi v)) (by omega) | (exfalso; omega)
    · exact hr
  · refine z_iload0 gi_143_4 ?_
    refine z_pushJ gp_143_5 ?_
    refine z_icmp_geT gi_143_7 (by omega) zr_6 (by omega) ?_
    refine z_pushJ gp_143_14 ?_
    refine z_bret0 gi_143_15 gr_143 ?_
    show zW _ _ _ _ _ _ _ _ _ _
    refine z_if_eqT gi_140_4 zr_0 (by decide) ?_
    refine z_pushJ gp_140_14 ?_
    refine z_iret gi_140_15 gr_140 ?_
    refine ⟨_, rfl, ?_⟩
    show zW _ _ _ _ [some (.ref 50), some (zi s), some (zi i), some (zi o), some (zi j), some (zi n), none] _ _ _ _ _
    refine z_iload1 gi_254_0 ?_
    refine z_cS1 gi_254_1 (Nat.le_of_ble_eq_true rfl) gc_248_I ?_
    refine z_iload0 gi_248_0 ?_
    refine z_pushJ gp_248_1 ?_
    refine z_pushJ gp_248_2 ?_
    refine z_cS3 gi_248_3 (Nat.le_of_ble_eq_true rfl) gc_148_III ?_
    refine z_iload0 gi_148_0 ?_
    refine z_iload1 gi_148_1 ?_
    refine z_icmp_ltF gi_148_2 (by omega) zr_0 (by omega) ?_
    refine z_iload0 gi_148_5 ?_
    refine z_iload2 gi_148_6 ?_
    refine z_icmp_gtT gi_148_7 (by omega) zr_5 (by omega) ?_
    refine z_pushJ gp_148_14 ?_
    refine z_bret0 gi_148_15 gr_148 ?_
    show zW _ _ _ _ _ _ _ _ _ _
    refine z_bret0 gi_248_6 gr_248 ?_
    show zW _ _ _ _ _ _ _ _ _ _
    refine z_if_eqT gi_254_4 zr_0 (by decide) ?_
    refine z_pushJ gp_254_14 ?_
    refine z_iret gi_254_15 gr_254 ?_
    refine ⟨?_, ?_⟩
    · first | rfl | exact congrArg (fun v => some (zi v)) (by omega) | (exfalso; omega)
    · exact hr
theorem st_shift_m {X : Nat × (Nat → Int32)} {d : Nat} {J M : zA} {R : zR} {s i o j n : Int} (hr : Rel X J M R) (hs : -2147483648 ≤ s ∧ s < 2147483648) (hi : -2147483648 ≤ i ∧ i < 2147483648) (ho : -2147483648 ≤ o ∧ o < 2147483648) (hj : -2147483648 ≤ j ∧ j < 2147483648) (hn : -2147483648 ≤ n ∧ n < 2147483648) (hs6 : 0 ≤ s ∧ s < 6) (ho6 : ¬ (0 ≤ o ∧ o < 6)) : zW X (d + 20) 140 0 (gEn 140 [(.ref 0), (zi s), (zi i), (zi o), (zi j), (zi n)]) [] J M R (stP X (d + 20) 254 [(zi s), (zi i), (zi o), (zi j), (zi n)]) := by
  have hr0 := hr
  obtain ⟨hR, hG, hY, hD, hP, hC, hAc, hS, hTp, hX, hW⟩ := hr0
  have hRr : zRoR R := zRoR_of hR
  show zW _ _ _ _ [some (.ref 0), some (zi s), some (zi i), some (zi o), some (zi j), some (zi n), none, none] _ _ _ _ _
  refine z_iload1 gi_140_0 ?_
  refine z_cS1 gi_140_1 (Nat.le_of_ble_eq_true rfl) gc_143_I ?_
  refine z_iload0 gi_143_0 ?_
  refine z_if_ltF gi_143_1 (by omega) (by omega) ?_
  refine z_iload0 gi_143_4 ?_
  refine z_pushJ gp_143_5 ?_
  refine z_icmp_geF gi_143_7 (by omega) zr_6 (by omega) ?_
  refine z_pushJ gp_143_10 ?_
  refine z_goto gi_143_11 ?_
  refine z_bret1 gi_143_15 gr_143 ?_
  show zW _ _ _ _ _ _ _ _ _ _
  refine z_if_eqF gi_140_4 zr_1 (by decide) ?_
  refine z_iload3 gi_140_7 ?_
  refine z_cS1 gi_140_8 (Nat.le_of_ble_eq_true rfl) gc_143_I ?_
  refine z_iload0 gi_143_0 ?_
  refine z_if_lt gi_143_1 (by omega) (fun h1 => ?_) (fun h1 => ?_)
  · refine z_pushJ gp_143_14 ?_
    refine z_bret0 gi_143_15 gr_143 ?_
    show zW _ _ _ _ _ _ _ _ _ _
    refine z_if_neF gi_140_11 zr_0 (by decide) ?_
    refine z_pushJ gp_140_14 ?_
    refine z_iret gi_140_15 gr_140 ?_
    refine ⟨_, rfl, ?_⟩
    show zW _ _ _ _ [some (.ref 50), some (zi s), some (zi i), some (zi o), some (zi j), some (zi n), none] _ _ _ _ _
    refine z_iload1 gi_254_0 ?_
    refine z_cS1 gi_254_1 (Nat.le_of_ble_eq_true rfl) gc_248_I ?_
    refine z_iload0 gi_248_0 ?_
    refine z_pushJ gp_248_1 ?_
    refine z_pushJ gp_248_2 ?_
    refine z_cS3 gi_248_3 (Nat.le_of_ble_eq_true rfl) gc_148_III ?_
    refine z_iload0 gi_148_0 ?_
    refine z_iload1 gi_148_1 ?_
    refine z_icmp_ltF gi_148_2 (by omega) zr_0 (by omega) ?_
    refine z_iload0 gi_148_5 ?_
    refine z_iload2 gi_148_6 ?_
    refine z_icmp_gtF gi_148_7 (by omega) zr_5 (by omega) ?_
    refine z_pushJ gp_148_10 ?_
    refine z_goto gi_148_11 ?_
    refine z_bret1 gi_148_15 gr_148 ?_
    show zW _ _ _ _ _ _ _ _ _ _
    refine z_bret1 gi_248_6 gr_248 ?_
    show zW _ _ _ _ _ _ _ _ _ _
    refine z_if_eqF gi_254_4 zr_1 (by decide) ?_
    refine z_iload3 gi_254_7 ?_
    refine z_cS1 gi_254_8 (Nat.le_of_ble_eq_true rfl) gc_248_I ?_
    refine z_iload0 gi_248_0 ?_
    refine z_pushJ gp_248_1 ?_
    refine z_pushJ gp_248_2 ?_
    refine z_cS3 gi_248_3 (Nat.le_of_ble_eq_true rfl) gc_148_III ?_
    refine z_iload0 gi_148_0 ?_
    refine z_iload1 gi_148_1 ?_
    refine z_icmp_ltT gi_148_2 (by omega) zr_0 (by omega) ?_
    refine z_pushJ gp_148_14 ?_
    refine z_bret0 gi_148_15 gr_148 ?_
    show zW _ _ _ _ _ _ _ _ _ _
    refine z_bret0 gi_248_6 gr_248 ?_
    show zW _ _ _ _ _ _ _ _ _ _
    refine z_if_neF gi_254_11 zr_0 (by decide) ?_
    refine z_pushJ gp_254_14 ?_
    refine z_iret gi_254_15 gr_254 ?_
    refine ⟨?_, ?_⟩
    · first | rfl | exact congrArg (fun v => some (zi v)) (by omega) | (exfalso; omega)
    · exact hr
  · refine z_iload0 gi_143_4 ?_
    refine z_pushJ gp_143_5 ?_
    refine z_icmp_geT gi_143_7 (by omega) zr_6 (by omega) ?_
    refine z_pushJ gp_143_14 ?_
    refine z_bret0 gi_143_15 gr_143 ?_
    show zW _ _ _ _ _ _ _ _ _ _
    refine z_if_neF gi_140_11 zr_0 (by decide) ?_
    refine z_pushJ gp_140_14 ?_
    refine z_iret gi_140_15 gr_140 ?_
    refine ⟨_, rfl, ?_⟩
    show zW _ _ _ _ [some (.ref 50), some (zi s), some (zi i), some (zi o), some (zi j), some (zi n), none] _ _ _ _ _
    refine z_iload1 gi_254_0 ?_
    refine z_cS1 gi_254_1 (Nat.le_of_ble_eq_true rfl) gc_248_I ?_
    refine z_iload0 gi_248_0 ?_
    refine z_pushJ gp_248_1 ?_
    refine z_pushJ gp_248_2 ?_
    refine z_cS3 gi_248_3 (Nat.le_of_ble_eq_true rfl) gc_148_III ?_
    refine z_iload0 gi_148_0 ?_
    refine z_iload1 gi_148_1 ?_
    refine z_icmp_ltF gi_148_2 (by omega) zr_0 (by omega) ?_
    refine z_iload0 gi_148_5 ?_
    refine z_iload2 gi_148_6 ?_
    refine z_icmp_gtF gi_148_7 (by omega) zr_5 (by omega) ?_
    refine z_pushJ gp_148_10 ?_
    refine z_goto gi_148_11 ?_
    refine z_bret1 gi_148_15 gr_148 ?_
    show zW _ _ _ _ _ _ _ _ _ _
    refine z_bret1 gi_248_6 gr_248 ?_
    show zW _ _ _ _ _ _ _ _ _ _
    refine z_if_eqF gi_254_4 zr_1 (by decide) ?_
    refine z_iload3 gi_254_7 ?_
    refine z_cS1 gi_254_8 (Nat.le_of_ble_eq_true rfl) gc_248_I ?_
    refine z_iload0 gi_248_0 ?_
    refine z_pushJ gp_248_1 ?_
    refine z_pushJ gp_248_2 ?_
    refine z_cS3 gi_248_3 (Nat.le_of_ble_eq_true rfl) gc_148_III ?_
    refine z_iload0 gi_148_0 ?_
    refine z_iload1 gi_148_1 ?_
    refine z_icmp_ltF gi_148_2 (by omega) zr_0 (by omega) ?_
    refine z_iload0 gi_148_5 ?_
    refine z_iload2 gi_148_6 ?_
    refine z_icmp_gtT gi_148_7 (by omega) zr_5 (by omega) ?_
    refine z_pushJ gp_148_14 ?_
    refine z_bret0 gi_148_15 gr_148 ?_
    show zW _ _ _ _ _ _ _ _ _ _
    refine z_bret0 gi_248_6 gr_248 ?_
    show zW _ _ _ _ _ _ _ _ _ _
    refine z_if_neF gi_254_11 zr_0 (by decide) ?_
    refine z_pushJ gp_254_14 ?_
    refine z_iret gi_254_15 gr_254 ?_
    refine ⟨?_, ?_⟩
    · first | rfl | exact congrArg (fun v => some (zi v)) (by omega) | (exfalso; omega)
    · exact hr
theorem st_shift {X : Nat × (Nat → Int32)} {d : Nat} {J M : zA} {R : zR} {s i o j n : Int} (hr : Rel X J M R) (hs : -2147483648 ≤ s ∧ s < 2147483648) (hi : -2147483648 ≤ i ∧ i < 2147483648) (ho : -2147483648 ≤ o ∧ o < 2147483648) (hj : -2147483648 ≤ j ∧ j < 2147483648) (hn : -2147483648 ≤ n ∧ n < 2147483648) : zW X (d + 20) 140 0 (gEn 140 [(.ref 0), (zi s), (zi i), (zi o), (zi j), (zi n)]) [] J M R (stP X (d + 20) 254 [(zi s), (zi i), (zi o), (zi j), (zi n)]) := by
  by_cases hs6 : 0 ≤ s ∧ s < 6
  · by_cases ho6 : 0 ≤ o ∧ o < 6
    · have hS : RelS J M := hr.2.2.2.2.2.2.2.1
      have h2 := (hS s hs6.1 hs6.2).2.1
      have g2 := (hS o ho6.1 ho6.2).2.1
      have h4 : J (38 + 2 * s.toNat) 0 = 0 ∨ J (38 + 2 * s.toNat) 0 = 1 ∨ J (38 + 2 * s.toNat) 0 = 2 := by omega
      have g4 : J (38 + 2 * o.toNat) 0 = 0 ∨ J (38 + 2 * o.toNat) 0 = 1 ∨ J (38 + 2 * o.toNat) 0 = 2 := by omega
      rcases h4 with hh | hh | hh
      · rcases g4 with hho | hho | hho
        · exact st_shift_00 hr hs hi ho hj hn hs6 hh ho6 hho
        · exact st_shift_01 hr hs hi ho hj hn hs6 hh ho6 hho
        · exact st_shift_02 hr hs hi ho hj hn hs6 hh ho6 hho
      · rcases g4 with hho | hho | hho
        · exact st_shift_10 hr hs hi ho hj hn hs6 hh ho6 hho
        · exact st_shift_11 hr hs hi ho hj hn hs6 hh ho6 hho
        · exact st_shift_12 hr hs hi ho hj hn hs6 hh ho6 hho
      · rcases g4 with hho | hho | hho
        · exact st_shift_20 hr hs hi ho hj hn hs6 hh ho6 hho
        · exact st_shift_21 hr hs hi ho hj hn hs6 hh ho6 hho
        · exact st_shift_22 hr hs hi ho hj hn hs6 hh ho6 hho
    · exact st_shift_m hr hs hi ho hj hn hs6 ho6
  · exact st_shift_n hr hs hi ho hj hn hs6
