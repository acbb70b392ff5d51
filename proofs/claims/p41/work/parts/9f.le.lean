noncomputable def lo (x : Int) : Int := if x < 128 then x else x - 256
theorem lo_r (x : Int) : (x < 128 ∧ lo x = x) ∨ (128 ≤ x ∧ lo x = x - 256) := by
  unfold lo
  by_cases h : x < 128
  · rw [if_pos h]; exact Or.inl ⟨h, rfl⟩
  · rw [if_neg h]; exact Or.inr ⟨by omega, rfl⟩
theorem zb_all : ∀ x : Fin 256, zb ((x.val : Nat) : Int) = if ((x.val : Nat) : Int) < 128 then ((x.val : Nat) : Int) else ((x.val : Nat) : Int) - 256 := by decide +kernel
theorem zb_lo {x : Int} (h : 0 ≤ x ∧ x ≤ 255) : zb x = lo x := by
  have a := zb_all ⟨x.toNat, by omega⟩
  have e1 : ((x.toNat : Nat) : Int) = x := Int.toNat_of_nonneg h.1
  simp only [e1] at a
  exact a
theorem zb_id {x : Int} (h : 0 ≤ x ∧ x ≤ 127) : zb x = x := by
  rw [zb_lo (by omega)]
  unfold lo
  rw [if_pos (by omega)]
noncomputable def nmx (s : Int) : Int := if s = 104 then 0 else if s = 100 then 1 else if s = 107 then 2 else if s = 109 then 3 else if s = 99 then 4 else if s = 112 then 5 else -1
theorem nmx_r (s : Int) : (nmd s ∧ 0 ≤ nmx s ∧ nmx s ≤ 5) ∨ (¬ nmd s ∧ nmx s = -1) := by
  unfold nmx
  (repeat' split) <;> omega
/-- a code as the reference has it -/
noncomputable def enc (x : Int × Int) : Int × Int := if x.1 = 48 then (1, x.2) else if nmd x.1 then (2, nmx x.1) else if x.1 = 33 then (3, 0) else if x.1 = 95 then (4, 0) else (x.1, 0)
theorem enc_n {s : Int} (h : nmd s) : enc (s, 0) = (2, nmx s) := by
  unfold enc
  rw [if_neg (show ¬ s = 48 by omega), if_pos (show nmd s from h)]
theorem enc_b {s : Int} (h : 0 ≤ rk s) : enc (s, 0) = (s, 0) := by
  have q := rk_n h
  unfold enc
  rw [if_neg (show ¬ s = 48 from q.2.1), if_neg (show ¬ nmd s from q.2.2.1), if_neg (show ¬ s = 33 from q.2.2.2.1), if_neg (show ¬ s = 95 from q.2.2.2.2)]
theorem rk_b {s : Int} (h : 0 ≤ rk s) : 0 ≤ s ∧ s ≤ 127 := by
  unfold rk at h
  (repeat' split at h) <;> omega
theorem nameOf_k {X : Nat × (Nat → Int32)} {d : Nat} {J M : zA} {R : zR} {s : Int} (hs : -128 ≤ s ∧ s ≤ 255) : zW X d 168 0 (gEn 168 [(zi s)]) [] J M R (zPu (nmx s) J M R) := by
  show zW _ _ _ _ [some (zi s)] _ _ _ _ _
  refine z_iload0 rfl ?_
  refine z_sw (T := [((99 : Int), 80), ((100 : Int), 74), ((101 : Int), 84), ((102 : Int), 84), ((103 : Int), 84), ((104 : Int), 72), ((105 : Int), 84), ((106 : Int), 84), ((107 : Int), 76), ((108 : Int), 84), ((109 : Int), 78), ((110 : Int), 84), ((111 : Int), 84), ((112 : Int), 82)]) rfl (by omega) rfl (fun q hq1 hxhq1 => ?_) (fun hq1 => ?_)
  · simp only [List.mem_cons, List.not_mem_nil, or_false] at hq1
    rcases hq1 with rfl | rfl | rfl | rfl | rfl | rfl | rfl | rfl | rfl | rfl | rfl | rfl | rfl | rfl
    · have hxhq1 : s = 99 := hxhq1
      refine z_pushJ gp_168_80 ?_
      refine z_iret rfl gr_168 ?_
      exact ⟨congrArg (fun v => some (zi v)) (by unfold nmx; (repeat' split) <;> omega), rfl, rfl, rfl⟩
    · have hxhq1 : s = 100 := hxhq1
      refine z_pushJ gp_168_74 ?_
      refine z_iret rfl gr_168 ?_
      exact ⟨congrArg (fun v => some (zi v)) (by unfold nmx; (repeat' split) <;> omega), rfl, rfl, rfl⟩
    · have hxhq1 : s = 101 := hxhq1
      refine z_pushJ gp_168_84 ?_
      refine z_iret gi_168_85 gr_168 ?_
      exact ⟨congrArg (fun v => some (zi v)) (by unfold nmx; (repeat' split) <;> omega), rfl, rfl, rfl⟩
    · have hxhq1 : s = 102 := hxhq1
      refine z_pushJ gp_168_84 ?_
      refine z_iret gi_168_85 gr_168 ?_
      exact ⟨congrArg (fun v => some (zi v)) (by unfold nmx; (repeat' split) <;> omega), rfl, rfl, rfl⟩
    · have hxhq1 : s = 103 := hxhq1
      refine z_pushJ gp_168_84 ?_
      refine z_iret gi_168_85 gr_168 ?_
      exact ⟨congrArg (fun v => some (zi v)) (by unfold nmx; (repeat' split) <;> omega), rfl, rfl, rfl⟩
    · have hxhq1 : s = 104 := hxhq1
      refine z_pushJ gp_168_72 ?_
      refine z_iret rfl gr_168 ?_
      exact ⟨congrArg (fun v => some (zi v)) (by unfold nmx; (repeat' split) <;> omega), rfl, rfl, rfl⟩
    · have hxhq1 : s = 105 := hxhq1
      refine z_pushJ gp_168_84 ?_
      refine z_iret gi_168_85 gr_168 ?_
      exact ⟨congrArg (fun v => some (zi v)) (by unfold nmx; (repeat' split) <;> omega), rfl, rfl, rfl⟩
    · have hxhq1 : s = 106 := hxhq1
      refine z_pushJ gp_168_84 ?_
      refine z_iret gi_168_85 gr_168 ?_
      exact ⟨congrArg (fun v => some (zi v)) (by unfold nmx; (repeat' split) <;> omega), rfl, rfl, rfl⟩
    · have hxhq1 : s = 107 := hxhq1
      refine z_pushJ gp_168_76 ?_
      refine z_iret rfl gr_168 ?_
      exact ⟨congrArg (fun v => some (zi v)) (by unfold nmx; (repeat' split) <;> omega), rfl, rfl, rfl⟩
    · have hxhq1 : s = 108 := hxhq1
      refine z_pushJ gp_168_84 ?_
      refine z_iret gi_168_85 gr_168 ?_
      exact ⟨congrArg (fun v => some (zi v)) (by unfold nmx; (repeat' split) <;> omega), rfl, rfl, rfl⟩
    · have hxhq1 : s = 109 := hxhq1
      refine z_pushJ gp_168_78 ?_
      refine z_iret rfl gr_168 ?_
      exact ⟨congrArg (fun v => some (zi v)) (by unfold nmx; (repeat' split) <;> omega), rfl, rfl, rfl⟩
    · have hxhq1 : s = 110 := hxhq1
      refine z_pushJ gp_168_84 ?_
      refine z_iret gi_168_85 gr_168 ?_
      exact ⟨congrArg (fun v => some (zi v)) (by unfold nmx; (repeat' split) <;> omega), rfl, rfl, rfl⟩
    · have hxhq1 : s = 111 := hxhq1
      refine z_pushJ gp_168_84 ?_
      refine z_iret gi_168_85 gr_168 ?_
      exact ⟨congrArg (fun v => some (zi v)) (by unfold nmx; (repeat' split) <;> omega), rfl, rfl, rfl⟩
    · have hxhq1 : s = 112 := hxhq1
      refine z_pushJ gp_168_82 ?_
      refine z_iret rfl gr_168 ?_
      exact ⟨congrArg (fun v => some (zi v)) (by unfold nmx; (repeat' split) <;> omega), rfl, rfl, rfl⟩
  · have hq1 : ∀ q ∈ [((99 : Int), 80), ((100 : Int), 74), ((101 : Int), 84), ((102 : Int), 84), ((103 : Int), 84), ((104 : Int), 72), ((105 : Int), 84), ((106 : Int), 84), ((107 : Int), 76), ((108 : Int), 84), ((109 : Int), 78), ((110 : Int), 84), ((111 : Int), 84), ((112 : Int), 82)], ¬ s = q.1 := hq1
    have hq1_0 : ¬ s = 99 := hq1 (99, 80) (by simp)
    have hq1_1 : ¬ s = 100 := hq1 (100, 74) (by simp)
    have hq1_2 : ¬ s = 101 := hq1 (101, 84) (by simp)
    have hq1_3 : ¬ s = 102 := hq1 (102, 84) (by simp)
    have hq1_4 : ¬ s = 103 := hq1 (103, 84) (by simp)
    have hq1_5 : ¬ s = 104 := hq1 (104, 72) (by simp)
    have hq1_6 : ¬ s = 105 := hq1 (105, 84) (by simp)
    have hq1_7 : ¬ s = 106 := hq1 (106, 84) (by simp)
    have hq1_8 : ¬ s = 107 := hq1 (107, 76) (by simp)
    have hq1_9 : ¬ s = 108 := hq1 (108, 84) (by simp)
    have hq1_10 : ¬ s = 109 := hq1 (109, 78) (by simp)
    have hq1_11 : ¬ s = 110 := hq1 (110, 84) (by simp)
    have hq1_12 : ¬ s = 111 := hq1 (111, 84) (by simp)
    have hq1_13 : ¬ s = 112 := hq1 (112, 82) (by simp)
    refine z_pushJ gp_168_84 ?_
    refine z_iret gi_168_85 gr_168 ?_
    exact ⟨congrArg (fun v => some (zi v)) (by unfold nmx; (repeat' split) <;> omega), rfl, rfl, rfl⟩
theorem look_k {X : Nat × (Nat → Int32)} {d : Nat} {J M : zA} {R : zR} (hR : zRoR R) {A : zA} {c : Int → Int} {f : Int} (hf : A 50 15 = f) (hc : ∀ i, 0 ≤ i → i < f → A 61 i = zb (c i)) (ht : tp c f) (hJ : zK (kL [62, 63] [(50, 16), (50, 17), (50, 18), (50, 19)]) A J) {a : Int} (hat : J 50 16 = a) (ha : 0 ≤ a ∧ a ≤ f) : zW X d 165 0 (gEn 165 [(.ref 50)]) [] J M R (zPu (lo (c a)) J M R) := by
  have tf := ht.1
  show zW _ _ _ _ [some (.ref 50)] _ _ _ _ _
  refine z_aload0 rfl ?_
  refine z_getI (v := a) rfl gk_50 (hat) ?_
  refine z_aload0 rfl ?_
  refine z_getI (v := f) rfl gk_50 ((hJ 50 15 rfl).trans hf) ?_
  refine z_icmp_ge rfl (by omega) (by omega) (fun h1 => ?_) (fun h1 => ?_)
  · refine z_pushJ gp_165_23 ?_
    refine z_iret gi_165_24 gr_165 ?_
    exact ⟨congrArg (fun v => some (zi v)) (by rw [ht.2.2 a (by omega)]; rfl), rfl, rfl, rfl⟩
  · refine z_aload0 rfl ?_
    refine z_getR (r := 61) rfl gk_50 (hR _ rm_50_14 (by decide)) ?_
    refine z_aload0 rfl ?_
    refine z_getI (v := a) rfl gk_50 (hat) ?_
    refine z_bald (v := lo (c a)) rfl gk_61 (by decide) (by omega) (((hJ 61 _ rfl).trans (hc _ (by omega) (by omega))).trans (zb_lo (ht.2.1 _ (by omega) (by omega)))) ?_
    refine z_goto rfl ?_
    refine z_iret gi_165_24 gr_165 ?_
    exact ⟨rfl, rfl, rfl, rfl⟩
theorem addStep_k {X : Nat × (Nat → Int32)} {d : Nat} {J M : zA} {R : zR} (hR : zRoR R) {k s v : Int} (hs : 0 ≤ s ∧ s ≤ 127) (hkk : J 50 19 = k) (hk : 0 ≤ k ∧ k ≤ 129) : zW X d 167 0 (gEn 167 [(.ref 50), (zi s), (zi v)]) [] J M R (zPx none (zU (zU (zU J 62 (130 + k) s) 63 (130 + k) v) 50 19 (k + 1)) M R) := by
  show zW _ _ _ _ [some (.ref 50), some (zi s), some (zi v)] _ _ _ _ _
  refine z_aload0 rfl ?_
  refine z_getR (r := 62) rfl gk_50 (hR _ rm_50_20 (by decide)) ?_
  refine z_pushJ gp_167_4 ?_
  refine z_aload0 rfl ?_
  refine z_getI (v := k) rfl gk_50 (hkk) ?_
  refine z_iadd (e := 130 + k) rfl rfl ?_
  refine z_iload1 rfl ?_
  refine z_i2b (e := zb s) rfl rfl ?_
  refine z_bast (e := zb (zb s)) rfl gk_62 (by decide) (by omega) rfl ?_
  refine z_aload0 rfl ?_
  refine z_getR (r := 63) rfl gk_50 (hR _ rm_50_21 (by decide)) ?_
  refine z_pushJ gp_167_19 ?_
  refine z_aload0 rfl ?_
  refine z_getI (v := k) rfl gk_50 ((zU_n (by decide)).trans (hkk)) ?_
  refine z_iadd (e := 130 + k) rfl rfl ?_
  refine z_iload2 rfl ?_
  refine z_iast (e := v) rfl gk_63 (by decide) (by omega) rfl ?_
  refine z_aload0 rfl ?_
  refine z_dup rfl rfl ?_
  refine z_getI (v := k) rfl gk_50 ((zU_n (by decide)).trans ((zU_n (by decide)).trans (hkk))) ?_
  refine z_pushJ gp_167_34 ?_
  refine z_iadd (e := k + 1) rfl rfl ?_
  refine z_putI (y := 19) rfl rfl gk_50 ?_
  refine z_vret rfl gr_167 ?_
  exact ⟨rfl, by rw [zb_id hs, zb_id hs], rfl, rfl⟩
/-- what reading a part leaves of the reference -/
noncomputable def rr (c : Int → Int) (k op a : Int) (x : rs) (J M : zA) (R : zR) : zP := fun r J2 M2 R2 => (r = none ∧ zK (kL [62, 63] [(50, 16), (50, 17), (50, 18), (50, 19)]) J J2 ∧ J2 50 16 = x.2.1 ∧ (∀ j, j < 130 + k → J2 62 j = J 62 j ∧ J2 63 j = J 63 j) ∧ M2 = M ∧ R2 = R) ∧ ((x.1 = true ∧ J2 50 17 = -1 ∧ J2 50 18 = op ∧ J2 50 19 = k + (x.2.2.length : Int) ∧ lay J2 62 63 (130 + k) (x.2.2.map enc)) ∨ (x.1 = false ∧ J2 50 17 = x.2.1 ∧ (k ≤ J2 50 19 ∧ J2 50 19 ≤ k + (x.2.1 - a) + 1)))
theorem rrc {c : Int → Int} {k op a p : Int} {l : List (Int × Int)} {y : rs} {J J3 M J2 M2 : zA} {R R2 : zR} {r : Option Value} (hap : (l.length : Int) ≤ p - a) (h3 : zK (kL [62, 63] [(50, 16), (50, 17), (50, 18), (50, 19)]) J J3) (hke : ∀ j, j < 130 + k → J3 62 j = J 62 j ∧ J3 63 j = J 63 j) (hl : lay J3 62 63 (130 + k) (l.map enc)) (h : rr c (k + (l.length : Int)) op p y J3 M R r J2 M2 R2) : rr c k op a (y.1, y.2.1, l ++ y.2.2) J M R r J2 M2 R2 := by
  obtain ⟨⟨a0, a1, a2, a3, a4, a5⟩, b⟩ := h
  have n0 : 0 ≤ (l.length : Int) := by omega
  refine ⟨⟨a0, zK_t h3 a1, a2, fun j hj => ?_, a4, a5⟩, ?_⟩
  · have q1 := a3 j (by omega)
    have q2 := hke j hj
    exact ⟨q1.1.trans q2.1, q1.2.trans q2.2⟩
  · rcases b with ⟨b1, b2, b3, b4, b5⟩ | ⟨b1, b2, b3⟩
    · refine Or.inl ⟨b1, b2, b3, ?_, ?_⟩
      · rw [b4]
        show k + (l.length : Int) + (y.2.2.length : Int) = k + ((l ++ y.2.2).length : Int)
        rw [List.length_append]
        omega
      · show lay J2 62 63 (130 + k) ((l ++ y.2.2).map enc)
        rw [List.map_append]
        refine lay_app _ _ _ (lay_keep _ _ (130 + k + (l.length : Int)) hl (by rw [List.length_map]; omega) (fun j hj => a3 j (by omega))) ?_
        rw [List.length_map, show 130 + k + (l.length : Int) = 130 + (k + (l.length : Int)) by omega]
        exact b5
    · exact Or.inr ⟨b1, b2, ⟨by omega, by show J2 50 19 ≤ k + (y.2.1 - a) + 1; omega⟩⟩
theorem fig_z {X : Nat × (Nat → Int32)} {d : Nat} {J M : zA} {R : zR} {P : zP} (hR : zRoR R) {A : zA} {c : Int → Int} {f : Int} (hf : A 50 15 = f) (hc : ∀ i, 0 ≤ i → i < f → A 61 i = zb (c i)) (ht : tp c f) (hJ : zK (kL [62, 63] [(50, 16), (50, 17), (50, 18), (50, 19)]) A J) : ∀ (j : Nat) (i a v : Int), i + j = 4 → 0 ≤ i → (0 ≤ a ∧ a ≤ f) → zW X (d + 2) 170 52 [some (.ref 50), some (zi ((nu c j a v).2)), some (zi (i + ((nu c j a v).1 - a)))] [] (zU J 50 16 (nu c j a v).1) M R P → zW X (d + 2) 170 4 [some (.ref 50), some (zi v), some (zi i)] [] (zU J 50 16 a) M R P := by
  intro j
  induction j with
  | zero =>
    intro i a v hi h0 ha KK
    obtain rfl : i = 4 := by omega
    have KK2 : zW X (d + 2) 170 52 [some (.ref 50), some (zi v), some (zi (4 + (a - a)))] [] (zU J 50 16 a) M R P := KK
    rw [show (4 : Int) + (a - a) = 4 by omega] at KK2
    refine z_iload rfl rfl ?_
    refine z_pushI (z := 4) rfl rfl ?_
    refine z_icmp_geT rfl (by decide) (by decide) (by decide) ?_
    exact KK2
  | succ j ih =>
    intro i a v hi h0 ha KK
    have tf := ht.1
    refine z_iload2 rfl ?_
    refine z_pushJ gp_170_5 ?_
    refine z_icmp_geF rfl (by omega) zr_4 (by omega) ?_
    refine z_aload0 rfl ?_
    refine z_callVP (As := []) (v := lo (c (a))) rfl rfl gk_50 (Nat.le_of_ble_eq_true rfl) (Nat.le_of_ble_eq_true rfl) (look_k hR hf hc ht (zK_x (a := 50) (x := 16) (v := a) hJ rfl) (by exact zU_e) (by omega)) ?_
    have q1 := tp_r ht (a) (by omega)
    have q2 := lo_r (c (a))
    refine z_pushJ gp_170_13 ?_
    refine z_pushJ gp_170_15 ?_
    refine z_cS3 rfl (Nat.le_of_ble_eq_true rfl) gc_148_III ?_
    refine z_iload0 gi_148_0 ?_
    refine z_iload1 gi_148_1 ?_
    refine z_icmp_lt gi_148_2 (by omega) zr_48 (fun h3 => ?_) (fun h3 => ?_)
    · refine z_pushJ gp_148_14 ?_
      refine z_bret0 gi_148_15 gr_148 ?_
      show zW _ _ _ _ _ _ _ _ _ _
      refine z_if_eqT gi_170_20 zr_0 (by decide) ?_
      show zW _ _ _ _ [some (.ref 50), some (zi v), some (zi i)] [] _ _ _ _
      have e := @nu_0 c j a v (by omega)
      rw [e] at KK
      rw [show i + (a - a) = i by omega] at KK
      exact KK
    · refine z_iload0 gi_148_5 ?_
      refine z_iload2 gi_148_6 ?_
      refine z_icmp_gt gi_148_7 (by omega) zr_57 (fun h4 => ?_) (fun h4 => ?_)
      · refine z_pushJ gp_148_14 ?_
        refine z_bret0 gi_148_15 gr_148 ?_
        show zW _ _ _ _ _ _ _ _ _ _
        refine z_if_eqT gi_170_20 zr_0 (by decide) ?_
        show zW _ _ _ _ [some (.ref 50), some (zi v), some (zi i)] [] _ _ _ _
        have e := @nu_0 c j a v (by omega)
        rw [e] at KK
        rw [show i + (a - a) = i by omega] at KK
        exact KK
      · refine z_pushJ gp_148_10 ?_
        refine z_goto gi_148_11 ?_
        refine z_bret1 gi_148_15 gr_148 ?_
        show zW _ _ _ _ _ _ _ _ _ _
        refine z_if_eqF gi_170_20 zr_1 (by decide) ?_
        refine z_pushJ gp_170_23 ?_
        refine z_iload1 rfl ?_
        refine z_imul (e := 10 * v) rfl rfl ?_
        refine z_aload0 rfl ?_
        refine z_callVP (As := []) (v := lo (c (a))) rfl rfl gk_50 (Nat.le_of_ble_eq_true rfl) (Nat.le_of_ble_eq_true rfl) (look_k hR hf hc ht (zK_x (a := 50) (x := 16) (v := a) hJ rfl) (by exact zU_e) (by omega)) ?_
        have q5 := tp_r ht (a) (by omega)
        have q6 := lo_r (c (a))
        refine z_iadd (e := 10 * v + (lo (c (a)))) rfl rfl ?_
        refine z_pushJ gp_170_32 ?_
        refine z_isub (e := 10 * v + (lo (c (a))) - 48) rfl rfl ?_
        refine z_top (y := v * 10 + c a - 48) (congrArg Int32.ofInt (by omega)) ?_
        refine z_istore (ls1 := [some (.ref 50), some (zi (v * 10 + c a - 48)), some (zi i)]) rfl rfl ?_
        refine z_iinc (c := 1) (e := i + 1) (ls1 := [some (.ref 50), some (zi (v * 10 + c a - 48)), some (zi (i + 1))]) rfl rfl rfl rfl rfl ?_
        refine z_aload0 rfl ?_
        refine z_dup rfl rfl ?_
        refine z_getI (v := a) rfl gk_50 (zU_e) ?_
        refine z_pushJ gp_170_44 ?_
        refine z_iadd (e := a + 1) rfl rfl ?_
        refine z_putI (y := 16) rfl rfl gk_50 ?_
        refine z_goto rfl ?_
        show zW _ _ _ _ [some (.ref 50), some (zi (v * 10 + c a - 48)), some (zi (i + 1))] [] _ _ _ _
        have e := @nu_1 c j a v (by omega)
        rw [zU_U]
        rw [e] at KK
        have ha2 := tp_lt ht (show ¬ c a = -1 by omega)
        refine ih (i + 1) (a + 1) (v * 10 + c a - 48) (by omega) (by omega) (by omega) ?_
        rw [show i + 1 + ((nu c j (a + 1) (v * 10 + c a - 48)).1 - (a + 1)) = i + ((nu c j (a + 1) (v * 10 + c a - 48)).1 - a) by omega]
        exact KK
theorem fig_0 {X : Nat × (Nat → Int32)} {d k pc : Nat} {ls : List (Option Value)} {st : List Value} {J M : zA} {R : zR} {P : zP} {a : Int} (h : J 50 16 = a) (g : zW X d k pc ls st (zU J 50 16 a) M R P) : zW X d k pc ls st J M R P := by
  rw [zU_id h] at g
  exact g
theorem figure_k {X : Nat × (Nat → Int32)} {d : Nat} {J M : zA} {R : zR} (hR : zRoR R) {A : zA} {c : Int → Int} {f : Int} (hf : A 50 15 = f) (hc : ∀ i, 0 ≤ i → i < f → A 61 i = zb (c i)) (ht : tp c f) (hJ : zK (kL [62, 63] [(50, 16), (50, 17), (50, 18), (50, 19)]) A J) {a op k : Int} (hat : J 50 16 = a) (hfa : J 50 17 = -1) (hop : J 50 18 = op) (hkk : J 50 19 = k) (ha : 0 ≤ a ∧ a ≤ f) (hk0 : 0 ≤ k ∧ k ≤ a) : zW X (d + 3) 170 0 (gEn 170 [(.ref 50)]) [] J M R (rr c k op a (if dg (c a) then (if dg (c (nu c 4 a 0).1) then (false, (nu c 4 a 0).1, []) else (true, (nu c 4 a 0).1, [(48, (nu c 4 a 0).2)])) else (false, a, [])) J M R) := by
  have tf := ht.1
  show zW _ _ _ _ [some (.ref 50), none, none] _ _ _ _ _
  refine z_pushJ gp_170_0 ?_
  refine z_istore (ls1 := [some (.ref 50), some (zi 0), none]) rfl rfl ?_
  refine z_pushJ gp_170_2 ?_
  refine z_istore (ls1 := [some (.ref 50), some (zi 0), some (zi 0)]) rfl rfl ?_
  show zW _ _ _ _ [some (.ref 50), some (zi 0), some (zi 0)] [] _ _ _ _
  refine fig_0 hat ?_
  refine fig_z hR hf hc ht hJ 4 0 a 0 (by decide) (by decide) ha ?_
  have n1 := nu_g ht 4 a 0 ha
  have n3 : (dg (c a) ∧ a + 1 ≤ (nu c 4 a 0).1) ∨ (¬ dg (c a) ∧ (nu c 4 a 0).1 = a) := by
    by_cases q : dg (c a)
    · exact Or.inl ⟨q, (nu_v q).2⟩
    · exact Or.inr ⟨q, by rw [nu_0 q]⟩
  refine z_iload2 rfl ?_
  refine z_if_eq rfl (by omega) (fun h1 => ?_) (fun h1 => ?_)
  · refine z_aload0 gi_170_70 ?_
    refine z_cV0 gi_170_71 gk_50 go_166 (Nat.le_of_ble_eq_true rfl) gc_166_R ?_
    refine z_aload0 gi_166_0 ?_
    refine z_getI (v := (-1)) gi_166_1 gk_50 ((zU_x (by decide)).trans (hfa)) ?_
    refine z_if_geF gi_166_4 zrn_1 (by decide) ?_
    refine z_aload0 gi_166_7 ?_
    refine z_aload0 gi_166_8 ?_
    refine z_getI (v := (nu c 4 a 0).1) gi_166_9 gk_50 (zU_e) ?_
    refine z_putI (y := 17) gi_166_12 rfl gk_50 ?_
    refine z_vret gi_166_15 gr_166 ?_
    show zW _ _ _ _ _ _ _ _ _ _
    refine z_aload0 gi_170_74 ?_
    refine z_pushJ gp_170_75 ?_
    refine z_iload1 gi_170_76 ?_
    refine z_callVx (As := [_, _]) gi_170_77 rfl gk_50 (Nat.le_of_ble_eq_true rfl) (Nat.le_of_ble_eq_true rfl) (addStep_k (k := k) (s := 1) (v := (nu c 4 a 0).2) hR (by omega) (by exact (zU_x (by decide)).trans ((zU_x (by decide)).trans (hkk))) (by omega)) ?_
    show zW _ _ _ _ _ _ _ _ _ _
    refine z_vret gi_170_80 gr_170 ?_
    by_cases q : dg (c a)
    · rw [if_pos q, if_pos (show dg (c (nu c 4 a 0).1) by omega)]
      refine ⟨⟨rfl, (zK_x (a := 50) (x := 19) (v := k + 1) (zK_x (a := 63) (x := 130 + k) (v := (nu c 4 a 0).2) (zK_x (a := 62) (x := 130 + k) (v := 1) (zK_x (a := 50) (x := 17) (v := (nu c 4 a 0).1) (zK_x (a := 50) (x := 16) (v := (nu c 4 a 0).1) zK_r rfl) rfl) rfl) rfl) rfl), (zU_x (by decide)).trans ((zU_n (by decide)).trans ((zU_n (by decide)).trans ((zU_x (by decide)).trans (zU_e)))), fun j hj => ⟨(zU_n (by decide)).trans ((zU_n (by decide)).trans ((zU_x (by omega)).trans ((zU_n (by decide)).trans ((zU_n (by decide)).trans (rfl))))), (zU_n (by decide)).trans ((zU_x (by omega)).trans ((zU_n (by decide)).trans ((zU_n (by decide)).trans ((zU_n (by decide)).trans (rfl)))))⟩, rfl, rfl⟩, Or.inr ⟨rfl, (zU_x (by decide)).trans ((zU_n (by decide)).trans ((zU_n (by decide)).trans (zU_e))), ?_⟩⟩
      rw [zU_e]
      show k ≤ k + 1 ∧ k + 1 ≤ k + ((nu c 4 a 0).1 - a) + 1
      omega
    · rw [if_neg q]
      have e0 : (nu c 4 a 0).1 = a := by omega
      refine ⟨⟨rfl, (zK_x (a := 50) (x := 19) (v := k + 1) (zK_x (a := 63) (x := 130 + k) (v := (nu c 4 a 0).2) (zK_x (a := 62) (x := 130 + k) (v := 1) (zK_x (a := 50) (x := 17) (v := (nu c 4 a 0).1) (zK_x (a := 50) (x := 16) (v := (nu c 4 a 0).1) zK_r rfl) rfl) rfl) rfl) rfl), ((zU_x (by decide)).trans ((zU_n (by decide)).trans ((zU_n (by decide)).trans ((zU_x (by decide)).trans (zU_e))))).trans e0, fun j hj => ⟨(zU_n (by decide)).trans ((zU_n (by decide)).trans ((zU_x (by omega)).trans ((zU_n (by decide)).trans ((zU_n (by decide)).trans (rfl))))), (zU_n (by decide)).trans ((zU_x (by omega)).trans ((zU_n (by decide)).trans ((zU_n (by decide)).trans ((zU_n (by decide)).trans (rfl)))))⟩, rfl, rfl⟩, Or.inr ⟨rfl, ((zU_x (by decide)).trans ((zU_n (by decide)).trans ((zU_n (by decide)).trans (zU_e)))).trans e0, ?_⟩⟩
      rw [zU_e]
      show k ≤ k + 1 ∧ k + 1 ≤ k + (a - a) + 1
      omega
  · refine z_aload0 rfl ?_
    refine z_callVP (As := []) (v := lo (c ((nu c 4 a 0).1))) rfl rfl gk_50 (Nat.le_of_ble_eq_true rfl) (Nat.le_of_ble_eq_true rfl) (look_k hR hf hc ht (zK_x (a := 50) (x := 16) (v := (nu c 4 a 0).1) hJ rfl) (by exact zU_e) (by omega)) ?_
    have q2 := tp_r ht ((nu c 4 a 0).1) (by omega)
    have q3 := lo_r (c ((nu c 4 a 0).1))
    refine z_pushJ gp_170_60 ?_
    refine z_pushJ gp_170_62 ?_
    refine z_cS3 rfl (Nat.le_of_ble_eq_true rfl) gc_148_III ?_
    refine z_iload0 gi_148_0 ?_
    refine z_iload1 gi_148_1 ?_
    refine z_icmp_lt gi_148_2 (by omega) zr_48 (fun h4 => ?_) (fun h4 => ?_)
    · refine z_pushJ gp_148_14 ?_
      refine z_bret0 gi_148_15 gr_148 ?_
      show zW _ _ _ _ _ _ _ _ _ _
      refine z_if_eqT gi_170_67 zr_0 (by decide) ?_
      refine z_aload0 gi_170_74 ?_
      refine z_pushJ gp_170_75 ?_
      refine z_iload1 gi_170_76 ?_
      refine z_callVx (As := [_, _]) gi_170_77 rfl gk_50 (Nat.le_of_ble_eq_true rfl) (Nat.le_of_ble_eq_true rfl) (addStep_k (k := k) (s := 1) (v := (nu c 4 a 0).2) hR (by omega) (by exact (zU_x (by decide)).trans (hkk)) (by omega)) ?_
      show zW _ _ _ _ _ _ _ _ _ _
      refine z_vret gi_170_80 gr_170 ?_
      rw [if_pos (show dg (c a) by omega), if_neg (show ¬ dg (c (nu c 4 a 0).1) by omega)]
      exact ⟨⟨rfl, (zK_x (a := 50) (x := 19) (v := k + 1) (zK_x (a := 63) (x := 130 + k) (v := (nu c 4 a 0).2) (zK_x (a := 62) (x := 130 + k) (v := 1) (zK_x (a := 50) (x := 16) (v := (nu c 4 a 0).1) zK_r rfl) rfl) rfl) rfl), (zU_x (by decide)).trans ((zU_n (by decide)).trans ((zU_n (by decide)).trans (zU_e))), fun j hj => ⟨(zU_n (by decide)).trans ((zU_n (by decide)).trans ((zU_x (by omega)).trans ((zU_n (by decide)).trans (rfl)))), (zU_n (by decide)).trans ((zU_x (by omega)).trans ((zU_n (by decide)).trans ((zU_n (by decide)).trans (rfl))))⟩, rfl, rfl⟩, Or.inl ⟨rfl, (zU_x (by decide)).trans ((zU_n (by decide)).trans ((zU_n (by decide)).trans ((zU_x (by decide)).trans (hfa)))), (zU_x (by decide)).trans ((zU_n (by decide)).trans ((zU_n (by decide)).trans ((zU_x (by decide)).trans (hop)))), zU_e, ⟨⟨(zU_n (by decide)).trans ((zU_n (by decide)).trans (zU_e)), (zU_n (by decide)).trans (zU_e)⟩, trivial⟩⟩⟩
    · refine z_iload0 gi_148_5 ?_
      refine z_iload2 gi_148_6 ?_
      refine z_icmp_gt gi_148_7 (by omega) zr_57 (fun h5 => ?_) (fun h5 => ?_)
      · refine z_pushJ gp_148_14 ?_
        refine z_bret0 gi_148_15 gr_148 ?_
        show zW _ _ _ _ _ _ _ _ _ _
        refine z_if_eqT gi_170_67 zr_0 (by decide) ?_
        refine z_aload0 gi_170_74 ?_
        refine z_pushJ gp_170_75 ?_
        refine z_iload1 gi_170_76 ?_
        refine z_callVx (As := [_, _]) gi_170_77 rfl gk_50 (Nat.le_of_ble_eq_true rfl) (Nat.le_of_ble_eq_true rfl) (addStep_k (k := k) (s := 1) (v := (nu c 4 a 0).2) hR (by omega) (by exact (zU_x (by decide)).trans (hkk)) (by omega)) ?_
        show zW _ _ _ _ _ _ _ _ _ _
        refine z_vret gi_170_80 gr_170 ?_
        rw [if_pos (show dg (c a) by omega), if_neg (show ¬ dg (c (nu c 4 a 0).1) by omega)]
        exact ⟨⟨rfl, (zK_x (a := 50) (x := 19) (v := k + 1) (zK_x (a := 63) (x := 130 + k) (v := (nu c 4 a 0).2) (zK_x (a := 62) (x := 130 + k) (v := 1) (zK_x (a := 50) (x := 16) (v := (nu c 4 a 0).1) zK_r rfl) rfl) rfl) rfl), (zU_x (by decide)).trans ((zU_n (by decide)).trans ((zU_n (by decide)).trans (zU_e))), fun j hj => ⟨(zU_n (by decide)).trans ((zU_n (by decide)).trans ((zU_x (by omega)).trans ((zU_n (by decide)).trans (rfl)))), (zU_n (by decide)).trans ((zU_x (by omega)).trans ((zU_n (by decide)).trans ((zU_n (by decide)).trans (rfl))))⟩, rfl, rfl⟩, Or.inl ⟨rfl, (zU_x (by decide)).trans ((zU_n (by decide)).trans ((zU_n (by decide)).trans ((zU_x (by decide)).trans (hfa)))), (zU_x (by decide)).trans ((zU_n (by decide)).trans ((zU_n (by decide)).trans ((zU_x (by decide)).trans (hop)))), zU_e, ⟨⟨(zU_n (by decide)).trans ((zU_n (by decide)).trans (zU_e)), (zU_n (by decide)).trans (zU_e)⟩, trivial⟩⟩⟩
      · refine z_pushJ gp_148_10 ?_
        refine z_goto gi_148_11 ?_
        refine z_bret1 gi_148_15 gr_148 ?_
        show zW _ _ _ _ _ _ _ _ _ _
        refine z_if_eqF gi_170_67 zr_1 (by decide) ?_
        refine z_aload0 gi_170_70 ?_
        refine z_cV0 gi_170_71 gk_50 go_166 (Nat.le_of_ble_eq_true rfl) gc_166_R ?_
        refine z_aload0 gi_166_0 ?_
        refine z_getI (v := (-1)) gi_166_1 gk_50 ((zU_x (by decide)).trans (hfa)) ?_
        refine z_if_geF gi_166_4 zrn_1 (by decide) ?_
        refine z_aload0 gi_166_7 ?_
        refine z_aload0 gi_166_8 ?_
        refine z_getI (v := (nu c 4 a 0).1) gi_166_9 gk_50 (zU_e) ?_
        refine z_putI (y := 17) gi_166_12 rfl gk_50 ?_
        refine z_vret gi_166_15 gr_166 ?_
        show zW _ _ _ _ _ _ _ _ _ _
        refine z_aload0 gi_170_74 ?_
        refine z_pushJ gp_170_75 ?_
        refine z_iload1 gi_170_76 ?_
        refine z_callVx (As := [_, _]) gi_170_77 rfl gk_50 (Nat.le_of_ble_eq_true rfl) (Nat.le_of_ble_eq_true rfl) (addStep_k (k := k) (s := 1) (v := (nu c 4 a 0).2) hR (by omega) (by exact (zU_x (by decide)).trans ((zU_x (by decide)).trans (hkk))) (by omega)) ?_
        show zW _ _ _ _ _ _ _ _ _ _
        refine z_vret gi_170_80 gr_170 ?_
        by_cases q : dg (c a)
        · rw [if_pos q, if_pos (show dg (c (nu c 4 a 0).1) by omega)]
          refine ⟨⟨rfl, (zK_x (a := 50) (x := 19) (v := k + 1) (zK_x (a := 63) (x := 130 + k) (v := (nu c 4 a 0).2) (zK_x (a := 62) (x := 130 + k) (v := 1) (zK_x (a := 50) (x := 17) (v := (nu c 4 a 0).1) (zK_x (a := 50) (x := 16) (v := (nu c 4 a 0).1) zK_r rfl) rfl) rfl) rfl) rfl), (zU_x (by decide)).trans ((zU_n (by decide)).trans ((zU_n (by decide)).trans ((zU_x (by decide)).trans (zU_e)))), fun j hj => ⟨(zU_n (by decide)).trans ((zU_n (by decide)).trans ((zU_x (by omega)).trans ((zU_n (by decide)).trans ((zU_n (by decide)).trans (rfl))))), (zU_n (by decide)).trans ((zU_x (by omega)).trans ((zU_n (by decide)).trans ((zU_n (by decide)).trans ((zU_n (by decide)).trans (rfl)))))⟩, rfl, rfl⟩, Or.inr ⟨rfl, (zU_x (by decide)).trans ((zU_n (by decide)).trans ((zU_n (by decide)).trans (zU_e))), ?_⟩⟩
          rw [zU_e]
          show k ≤ k + 1 ∧ k + 1 ≤ k + ((nu c 4 a 0).1 - a) + 1
          omega
        · rw [if_neg q]
          have e0 : (nu c 4 a 0).1 = a := by omega
          refine ⟨⟨rfl, (zK_x (a := 50) (x := 19) (v := k + 1) (zK_x (a := 63) (x := 130 + k) (v := (nu c 4 a 0).2) (zK_x (a := 62) (x := 130 + k) (v := 1) (zK_x (a := 50) (x := 17) (v := (nu c 4 a 0).1) (zK_x (a := 50) (x := 16) (v := (nu c 4 a 0).1) zK_r rfl) rfl) rfl) rfl) rfl), ((zU_x (by decide)).trans ((zU_n (by decide)).trans ((zU_n (by decide)).trans ((zU_x (by decide)).trans (zU_e))))).trans e0, fun j hj => ⟨(zU_n (by decide)).trans ((zU_n (by decide)).trans ((zU_x (by omega)).trans ((zU_n (by decide)).trans ((zU_n (by decide)).trans (rfl))))), (zU_n (by decide)).trans ((zU_x (by omega)).trans ((zU_n (by decide)).trans ((zU_n (by decide)).trans ((zU_n (by decide)).trans (rfl)))))⟩, rfl, rfl⟩, Or.inr ⟨rfl, ((zU_x (by decide)).trans ((zU_n (by decide)).trans ((zU_n (by decide)).trans (zU_e)))).trans e0, ?_⟩⟩
          rw [zU_e]
          show k ≤ k + 1 ∧ k + 1 ≤ k + (a - a) + 1
          omega
