/-- a place more, on both sides -/
noncomputable def plA (n : Int) (A : zA) (x y o : Int) : zA := (zU (zU (zU (zU (zU (zU (zU (zU (zU (zU (zU (zU (zU (zU A 8 2 (n + 1)) 9 (n * 5 + 0) x) 9 (n * 5 + 1) y) 9 (n * 5 + 2) o) 9 (n * 5 + 3) 5) 9 (n * 5 + 4) 0) 51 n x) 52 n y) 53 n o) 54 n 5) 55 n 0) 75 n 0) 76 n 0) 50 1 (n + 1))
/-- k places more -/
noncomputable def plS (n : Int) (b : Int → Int) (i : Int) (J : zA) : Nat → zA
  | 0 => J
  | k + 1 => plA (n + k) (plS n b i J k) (b (i + 3 * k)) (b (i + 3 * k + 1)) (b (i + 3 * k + 2))
abbrev pOk (n : Int) (b : Int → Int) (i z : Int) (t : Nat) : Prop := (0 ≤ i + 3 * t ∧ i + 3 * t + 3 ≤ z ∧ n + t < 8) ∧ (0 ≤ b (i + 3 * t) ∧ b (i + 3 * t) ≤ 99) ∧ (0 ≤ b (i + 3 * t + 1) ∧ b (i + 3 * t + 1) ≤ 99) ∧ (0 ≤ b (i + 3 * t + 2) ∧ b (i + 3 * t + 2) ≤ 99)
theorem plS_8 {n : Int} {b : Int → Int} {i : Int} {J : zA} (h : J 8 2 = n) : ∀ k : Nat, plS n b i J k 8 2 = n + k := by
  intro k
  cases k with
  | zero => exact h.trans (by omega)
  | succ k => exact (show plS n b i J (k + 1) 8 2 = n + k + 1 from rfl).trans (by omega)
theorem plS_50 {n : Int} {b : Int → Int} {i : Int} {J : zA} (h : J 50 1 = n) : ∀ k : Nat, plS n b i J k 50 1 = n + k := by
  intro k
  cases k with
  | zero => exact h.trans (by omega)
  | succ k => exact (show plS n b i J (k + 1) 50 1 = n + k + 1 from rfl).trans (by omega)
/-- the class's part of A, the reference's part of B -/
noncomputable def mix (A B : zA) : zA := fun x y => if x < 50 then A x y else B x y
theorem mix_r {A : zA} : mix A A = A := by
  funext x y
  unfold mix
  split <;> rfl
theorem mix_a {A B : zA} {c : Nat} {x v : Int} (h : c < 50) : mix (zU A c x v) B = zU (mix A B) c x v := by
  funext y z
  show (if y < 50 then (if y = c then (if z = x then v else A y z) else A y z) else B y z) = (if y = c then (if z = x then v else (if y < 50 then A y z else B y z)) else (if y < 50 then A y z else B y z))
  by_cases e : y = c
  · have h2 : y < 50 := by omega
    simp only [if_pos e, if_pos h2]
  · simp only [if_neg e]
theorem mix_b {A B : zA} {c : Nat} {x v : Int} (h : 50 ≤ c) : mix (zU A c x v) B = mix A B := by
  funext y z
  show (if y < 50 then (if y = c then (if z = x then v else A y z) else A y z) else B y z) = (if y < 50 then A y z else B y z)
  by_cases e : y < 50
  · simp only [if_neg (show ¬ y = c by omega)]
  · simp only [if_neg e]
theorem mix_c {A B : zA} {c : Nat} {x v : Int} (h : 50 ≤ c) : mix A (zU B c x v) = zU (mix A B) c x v := by
  funext y z
  show (if y < 50 then A y z else (if y = c then (if z = x then v else B y z) else B y z)) = (if y = c then (if z = x then v else (if y < 50 then A y z else B y z)) else (if y < 50 then A y z else B y z))
  by_cases e : y = c
  · have h2 : ¬ y < 50 := by omega
    simp only [if_pos e, if_neg h2]
  · simp only [if_neg e]
theorem mix_d {A B : zA} {c : Nat} {x v : Int} (h : c < 50) : mix A (zU B c x v) = mix A B := by
  funext y z
  show (if y < 50 then A y z else (if y = c then (if z = x then v else B y z) else B y z)) = (if y < 50 then A y z else B y z)
  by_cases e : y < 50
  · simp only [if_pos e]
  · simp only [if_neg (show ¬ y = c by omega)]
theorem mix_l {A B : zA} {c : Nat} {x : Int} (h : c < 50) : mix A B c x = A c x := by unfold mix; rw [if_pos h]
theorem mix_h {A B : zA} {c : Nat} {x : Int} (h : 50 ≤ c) : mix A B c x = B c x := by unfold mix; rw [if_neg (by omega)]
theorem plA_l {n x y o : Int} {A B : zA} : mix (plA n A x y o) B = (zU (zU (zU (zU (zU (zU (mix A B) 8 2 (n + 1)) 9 (n * 5 + 0) x) 9 (n * 5 + 1) y) 9 (n * 5 + 2) o) 9 (n * 5 + 3) 5) 9 (n * 5 + 4) 0) := by
  unfold plA
  rw [mix_b (by decide), mix_b (by decide), mix_b (by decide), mix_b (by decide), mix_b (by decide), mix_b (by decide), mix_b (by decide), mix_b (by decide), mix_a (by decide), mix_a (by decide), mix_a (by decide), mix_a (by decide), mix_a (by decide), mix_a (by decide)]
theorem plA_h {n x y o : Int} {A B : zA} : mix A (plA n B x y o) = (zU (zU (zU (zU (zU (zU (zU (zU (mix A B) 51 n x) 52 n y) 53 n o) 54 n 5) 55 n 0) 75 n 0) 76 n 0) 50 1 (n + 1)) := by
  unfold plA
  rw [mix_c (by decide), mix_c (by decide), mix_c (by decide), mix_c (by decide), mix_c (by decide), mix_c (by decide), mix_c (by decide), mix_c (by decide), mix_d (by decide), mix_d (by decide), mix_d (by decide), mix_d (by decide), mix_d (by decide), mix_d (by decide)]
theorem Rel_add {X : Nat × (Nat → Int32)} {J M : zA} {R : zR} {x y o n : Int} (hr : Rel X J M R) (hn : J 8 2 = n) (h8 : n < 8) (hx : 0 ≤ x ∧ x ≤ 99) (hy : 0 ≤ y ∧ y ≤ 99) (ho : 0 ≤ o ∧ o ≤ 99) : Rel X (plA n J x y o) M R := by
  subst hn
  obtain ⟨hR, hG, hY, hD, hP, hC, hAc, hS, hTp, hX, hW⟩ := hr
  unfold plA
  have hk := (zK_x (a := 50) (x := 1) (v := J 8 2 + 1) (zK_x (a := 76) (x := J 8 2) (v := 0) (zK_x (a := 75) (x := J 8 2) (v := 0) (zK_x (a := 55) (x := J 8 2) (v := 0) (zK_x (a := 54) (x := J 8 2) (v := 5) (zK_x (a := 53) (x := J 8 2) (v := o) (zK_x (a := 52) (x := J 8 2) (v := y) (zK_x (a := 51) (x := J 8 2) (v := x) (zK_x (a := 9) (x := J 8 2 * 5 + 4) (v := 0) (zK_x (a := 9) (x := J 8 2 * 5 + 3) (v := 5) (zK_x (a := 9) (x := J 8 2 * 5 + 2) (v := o) (zK_x (a := 9) (x := J 8 2 * 5 + 1) (v := y) (zK_x (a := 9) (x := J 8 2 * 5 + 0) (v := x) (zK_x (a := 8) (x := 2) (v := J 8 2 + 1) (zK_r (k := (kL [9, 51, 52, 53, 54, 55, 75, 76] [(8, 2), (50, 1)])) (A := J)) rfl) rfl) rfl) rfl) rfl) rfl) rfl) rfl) rfl) rfl) rfl) rfl) rfl) rfl)
  exact ⟨hR, hG, RelY_add hY h8 hx hy ho, RelD_add hD h8, RelP_add hP, RelC_add hC, RelA_k hk (by repeat' constructor) (fun p => by repeat' constructor) hAc, RelS_k hk (zK_r (k := kM)) (fun x j a b => ⟨kL_38 (by decide) (by decide) x j a b, kM_38 x j a b⟩) (fun p => ⟨rfl, rfl, rfl⟩) rfl hS, RelT_k hk (by repeat' constructor) (fun p => by repeat' constructor) hTp, RelX_k hk (by repeat' constructor) (fun p => by repeat' constructor) hX, RelW_k hk ⟨rfl, rfl⟩ trivial hW⟩
theorem Rel_plS {X : Nat × (Nat → Int32)} {J M : zA} {R : zR} {n : Int} {b : Int → Int} {i z : Int} (hr : Rel X J M R) (hn : J 8 2 = n) : ∀ K : Nat, (∀ t, t < K → pOk n b i z t) → Rel X (plS n b i J K) M R := by
  intro K
  induction K with
  | zero => exact fun _ => hr
  | succ K ih =>
    intro h
    obtain ⟨⟨q1, q2, q3⟩, q4, q5, q6⟩ := h K (by omega)
    exact Rel_add (ih (fun t ht => h t (by omega))) (plS_8 hn K) (by omega) q4 q5 q6
theorem plS_x {n : Int} {b : Int → Int} {i : Int} {J : zA} {c : Nat} {y : Int} (h : 10 ≤ c ∧ c < 50) : ∀ k : Nat, plS n b i J k c y = J c y := by
  intro k
  induction k with
  | zero => rfl
  | succ k ih =>
    refine Eq.trans ?_ ih
    show plA _ _ _ _ _ c y = _
    unfold plA
    rw [zU_n (by omega), zU_n (by omega), zU_n (by omega), zU_n (by omega), zU_n (by omega), zU_n (by omega), zU_n (by omega), zU_n (by omega), zU_n (by omega), zU_n (by omega), zU_n (by omega), zU_n (by omega), zU_n (by omega), zU_n (by omega)]
theorem plS_y {n : Int} {b : Int → Int} {i : Int} {J : zA} {c : Nat} {y : Int} (h : 83 ≤ c) : ∀ k : Nat, plS n b i J k c y = J c y := by
  intro k
  induction k with
  | zero => rfl
  | succ k ih =>
    refine Eq.trans ?_ ih
    show plA _ _ _ _ _ c y = _
    unfold plA
    rw [zU_n (by omega), zU_n (by omega), zU_n (by omega), zU_n (by omega), zU_n (by omega), zU_n (by omega), zU_n (by omega), zU_n (by omega), zU_n (by omega), zU_n (by omega), zU_n (by omega), zU_n (by omega), zU_n (by omega), zU_n (by omega)]
theorem placesC_z {X : Nat × (Nat → Int32)} {d : Nat} {J M : zA} {R : zR} {P : zP} {s i c n z : Int} {b : Int → Int} (hR : zRok R) (hs : 0 ≤ s ∧ s < 6) (hi : -2147483648 ≤ i ∧ i < 2147483648) (hc : 1 ≤ c ∧ c ≤ 8) (hn : 0 ≤ n ∧ n ≤ 8) (hzr : 0 ≤ z ∧ z ≤ 60) (hbr : ∀ y, 0 ≤ y → y < z → -128 ≤ b y ∧ b y ≤ 127) (hn8 : J 8 2 = n) (hz : J (38 + 2 * s.toNat) 3 = z) (hb : ∀ y, 0 ≤ y → y < z → M (39 + 2 * s.toNat) y = b y) (KK : ∀ K : Nat, (∀ t, t < K → pOk n b i z t) → (K : Int) ≤ c → ((K : Int) = c ∨ ¬ pOk n b i z K) → P (some (zi (K : Int))) (mix (plS n b i J K) J) M R) : ∀ (j k : Nat), k + j = 9 → (k : Int) ≤ c → (∀ t, t < k → pOk n b i z t) → zW X (d + 6) 102 52 [some (.ref 0), some (zi s), some (zi i), some (zi c), some (.ref (38 + 2 * s.toNat)), some (zi (k : Int))] [] (mix (plS n b i J k) J) M R P := by
  intro j
  induction j with
  | zero =>
    intro k hk hkc hok
    exfalso
    omega
  | succ j ih =>
    intro k hk hkc hok
    refine z_iload5 rfl ?_
    refine z_iload3 rfl ?_
    refine z_icmp_ge rfl (by omega) (by omega) (fun h1 => ?_) (fun h1 => ?_)
    · refine z_iload5 gi_102_83 ?_
      refine z_iret gi_102_85 gr_102 ?_
      first | exact KK k hok (by omega) (Or.inl (by omega)) | exact KK k hok (by omega) (Or.inr (fun q => by obtain ⟨⟨q1, q2, q3⟩, q4, q5, q6⟩ := q; omega))
    · refine z_aload0 rfl ?_
      refine z_aload4 rfl ?_
      refine z_iload2 rfl ?_
      refine z_i2l rfl (by omega) ?_
      refine z_pushL (z := 3) rfl rfl ?_
      refine z_iload5 rfl ?_
      refine z_i2l rfl (by omega) ?_
      refine z_lmul (e := 3 * (k : Int)) rfl rfl ?_
      refine z_ladd (e := i + 3 * (k : Int)) rfl rfl ?_
      refine z_callVi (As := [_, _]) (le := [some _, some _, some _, none, none, none, none, none]) rfl rfl gk_0 (Nat.le_of_ble_eq_true rfl) (Nat.le_of_ble_eq_true rfl) rfl ?_
      refine z_lload2 rfl ?_
      refine z_pushL (z := 0) rfl rfl ?_
      refine z_lcmp_lt rfl rfl (by omega) (by omega) (fun h2 => ?_) (fun h2 => ?_)
      · refine z_pushJ gp_103_32 ?_
        refine z_bret0 gi_103_33 gr_103 ?_
        show zW _ _ _ _ _ _ _ _ _ _
        refine z_if_eqT gi_102_74 zr_0 (by decide) ?_
        refine z_iload5 gi_102_83 ?_
        refine z_iret gi_102_85 gr_102 ?_
        first | exact KK k hok (by omega) (Or.inl (by omega)) | exact KK k hok (by omega) (Or.inr (fun q => by obtain ⟨⟨q1, q2, q3⟩, q4, q5, q6⟩ := q; omega))
      · refine z_lload2 rfl ?_
        refine z_pushL (z := 3) rfl rfl ?_
        refine z_ladd (e := i + 3 * (k : Int) + 3) rfl rfl ?_
        refine z_aload1 rfl ?_
        refine z_getI (v := z) rfl (zk_shelf (by omega)) ((mix_l (by omega)).trans ((plS_x (by omega) k).trans hz)) ?_
        refine z_i2l rfl (by omega) ?_
        refine z_lcmp_gt rfl rfl (by omega) (by omega) (fun h3 => ?_) (fun h3 => ?_)
        · refine z_pushJ gp_103_32 ?_
          refine z_bret0 gi_103_33 gr_103 ?_
          show zW _ _ _ _ _ _ _ _ _ _
          refine z_if_eqT gi_102_74 zr_0 (by decide) ?_
          refine z_iload5 gi_102_83 ?_
          refine z_iret gi_102_85 gr_102 ?_
          first | exact KK k hok (by omega) (Or.inl (by omega)) | exact KK k hok (by omega) (Or.inr (fun q => by obtain ⟨⟨q1, q2, q3⟩, q4, q5, q6⟩ := q; omega))
        · refine z_aload0 rfl ?_
          refine z_getR (r := 8) rfl gk_0 (hR _ rm_0_1) ?_
          refine z_getI (v := n + (k : Int)) rfl gk_8 ((mix_l (by decide)).trans (plS_8 hn8 k)) ?_
          refine z_pushJ gp_103_27 ?_
          refine z_icmp_lt rfl (by omega) zr_8 (fun h4 => ?_) (fun h4 => ?_)
          · refine z_lload2 rfl ?_
            refine z_l2i rfl ?_
            refine z_istore (ls1 := [some (.ref 0), some (.ref (38 + 2 * s.toNat)), some (zl (i + 3 * (k : Int))), none, some (zi (i + 3 * (k : Int))), none, none, none]) rfl rfl ?_
            refine z_aload1 rfl ?_
            refine z_iload4 rfl ?_
            refine z_callVi (As := [_]) (le := [some _, some _]) rfl rfl (zk_shelf (by omega)) (Nat.le_of_ble_eq_true rfl) (Nat.le_of_ble_eq_true rfl) rfl ?_
            refine z_iload1 gi_72_0 ?_
            refine z_if_ltF gi_72_1 (by omega) (by omega) ?_
            refine z_iload1 gi_72_4 ?_
            refine z_aload0 gi_72_5 ?_
            refine z_getI (v := z) gi_72_6 (zk_shelf (by omega)) ((mix_l (by omega)).trans ((plS_x (by omega) k).trans hz)) ?_
            refine z_icmp_geF gi_72_9 (by omega) (by omega) (by omega) ?_
            refine z_aload0 gi_72_12 ?_
            refine z_getR (r := 39 + 2 * s.toNat) gi_72_13 (zk_shelf (by omega)) (rr_cells hR (by omega)) ?_
            refine z_iload1 gi_72_16 ?_
            have q5 := hbr (i + 3 * (k : Int)) (by omega) (by omega)
            refine z_lald (v := b (i + 3 * (k : Int))) gi_72_17 (zk_cells (by omega)) (by decide) (by omega) (hb _ (by omega) (by omega)) ?_
            refine z_goto gi_72_18 ?_
            refine z_lret gi_72_22 gr_72 ?_
            show zW _ _ _ _ _ _ _ _ _ _
            refine z_l2i rfl ?_
            refine z_istore (ls1 := [some (.ref 0), some (.ref (38 + 2 * s.toNat)), some (zl (i + 3 * (k : Int))), none, some (zi (i + 3 * (k : Int))), some (zi (b (i + 3 * (k : Int)))), none, none]) rfl rfl ?_
            refine z_aload1 rfl ?_
            refine z_iload4 rfl ?_
            refine z_pushJ gp_103_50 ?_
            refine z_iadd (e := i + 3 * (k : Int) + 1) rfl rfl ?_
            refine z_callVi (As := [_]) (le := [some _, some _]) rfl rfl (zk_shelf (by omega)) (Nat.le_of_ble_eq_true rfl) (Nat.le_of_ble_eq_true rfl) rfl ?_
            refine z_iload1 gi_72_0 ?_
            refine z_if_ltF gi_72_1 (by omega) (by omega) ?_
            refine z_iload1 gi_72_4 ?_
            refine z_aload0 gi_72_5 ?_
            refine z_getI (v := z) gi_72_6 (zk_shelf (by omega)) ((mix_l (by omega)).trans ((plS_x (by omega) k).trans hz)) ?_
            refine z_icmp_geF gi_72_9 (by omega) (by omega) (by omega) ?_
            refine z_aload0 gi_72_12 ?_
            refine z_getR (r := 39 + 2 * s.toNat) gi_72_13 (zk_shelf (by omega)) (rr_cells hR (by omega)) ?_
            refine z_iload1 gi_72_16 ?_
            have q6 := hbr (i + 3 * (k : Int) + 1) (by omega) (by omega)
            refine z_lald (v := b (i + 3 * (k : Int) + 1)) gi_72_17 (zk_cells (by omega)) (by decide) (by omega) (hb _ (by omega) (by omega)) ?_
            refine z_goto gi_72_18 ?_
            refine z_lret gi_72_22 gr_72 ?_
            show zW _ _ _ _ _ _ _ _ _ _
            refine z_l2i rfl ?_
            refine z_istore (ls1 := [some (.ref 0), some (.ref (38 + 2 * s.toNat)), some (zl (i + 3 * (k : Int))), none, some (zi (i + 3 * (k : Int))), some (zi (b (i + 3 * (k : Int)))), some (zi (b (i + 3 * (k : Int) + 1))), none]) rfl rfl ?_
            refine z_aload1 rfl ?_
            refine z_iload4 rfl ?_
            refine z_pushJ gp_103_61 ?_
            refine z_iadd (e := i + 3 * (k : Int) + 2) rfl rfl ?_
            refine z_callVi (As := [_]) (le := [some _, some _]) rfl rfl (zk_shelf (by omega)) (Nat.le_of_ble_eq_true rfl) (Nat.le_of_ble_eq_true rfl) rfl ?_
            refine z_iload1 gi_72_0 ?_
            refine z_if_ltF gi_72_1 (by omega) (by omega) ?_
            refine z_iload1 gi_72_4 ?_
            refine z_aload0 gi_72_5 ?_
            refine z_getI (v := z) gi_72_6 (zk_shelf (by omega)) ((mix_l (by omega)).trans ((plS_x (by omega) k).trans hz)) ?_
            refine z_icmp_geF gi_72_9 (by omega) (by omega) (by omega) ?_
            refine z_aload0 gi_72_12 ?_
            refine z_getR (r := 39 + 2 * s.toNat) gi_72_13 (zk_shelf (by omega)) (rr_cells hR (by omega)) ?_
            refine z_iload1 gi_72_16 ?_
            have q7 := hbr (i + 3 * (k : Int) + 2) (by omega) (by omega)
            refine z_lald (v := b (i + 3 * (k : Int) + 2)) gi_72_17 (zk_cells (by omega)) (by decide) (by omega) (hb _ (by omega) (by omega)) ?_
            refine z_goto gi_72_18 ?_
            refine z_lret gi_72_22 gr_72 ?_
            show zW _ _ _ _ _ _ _ _ _ _
            refine z_l2i rfl ?_
            refine z_istore (ls1 := [some (.ref 0), some (.ref (38 + 2 * s.toNat)), some (zl (i + 3 * (k : Int))), none, some (zi (i + 3 * (k : Int))), some (zi (b (i + 3 * (k : Int)))), some (zi (b (i + 3 * (k : Int) + 1))), some (zi (b (i + 3 * (k : Int) + 2)))]) rfl rfl ?_
            refine z_pushJ gp_103_69 ?_
            refine z_iload5 rfl ?_
            refine z_cS2 rfl (Nat.le_of_ble_eq_true rfl) gc_86_II ?_
            refine z_iload0 gi_86_0 ?_
            refine z_if_ltF gi_86_1 zr_0 (by decide) ?_
            refine z_iload0 gi_86_4 ?_
            refine z_pushJ gp_86_5 ?_
            refine z_icmp_geF gi_86_7 zr_0 zr_14 (by decide) ?_
            refine z_iload1 gi_86_10 ?_
            refine z_getS gi_86_11 ?_
            refine z_iload0 gi_86_14 ?_
            refine z_sald (j := 1) (n := 14) (v := 0) gi_86_15 (by decide) rfl (by decide) (by decide) rfl ?_
            refine z_icmp_lt gi_86_16 (by omega) zr_0 (fun h8 => ?_) (fun h8 => ?_)
            · refine z_pushJ gp_86_32 ?_
              refine z_bret0 gi_86_33 gr_86 ?_
              show zW _ _ _ _ _ _ _ _ _ _
              refine z_if_eqT gi_103_75 zr_0 (by decide) ?_
              refine z_pushJ gp_103_96 ?_
              refine z_bret0 gi_103_97 gr_103 ?_
              show zW _ _ _ _ _ _ _ _ _ _
              refine z_if_eqT gi_102_74 zr_0 (by decide) ?_
              refine z_iload5 gi_102_83 ?_
              refine z_iret gi_102_85 gr_102 ?_
              first | exact KK k hok (by omega) (Or.inl (by omega)) | exact KK k hok (by omega) (Or.inr (fun q => by obtain ⟨⟨q1, q2, q3⟩, q4, q5, q6⟩ := q; omega))
            · refine z_iload1 gi_86_19 ?_
              refine z_getS gi_86_20 ?_
              refine z_iload0 gi_86_23 ?_
              refine z_sald (j := 2) (n := 14) (v := 99) gi_86_24 (by decide) rfl (by decide) (by decide) rfl ?_
              refine z_icmp_gt gi_86_25 (by omega) zr_99 (fun h9 => ?_) (fun h9 => ?_)
              · refine z_pushJ gp_86_32 ?_
                refine z_bret0 gi_86_33 gr_86 ?_
                show zW _ _ _ _ _ _ _ _ _ _
                refine z_if_eqT gi_103_75 zr_0 (by decide) ?_
                refine z_pushJ gp_103_96 ?_
                refine z_bret0 gi_103_97 gr_103 ?_
                show zW _ _ _ _ _ _ _ _ _ _
                refine z_if_eqT gi_102_74 zr_0 (by decide) ?_
                refine z_iload5 gi_102_83 ?_
                refine z_iret gi_102_85 gr_102 ?_
                first | exact KK k hok (by omega) (Or.inl (by omega)) | exact KK k hok (by omega) (Or.inr (fun q => by obtain ⟨⟨q1, q2, q3⟩, q4, q5, q6⟩ := q; omega))
              · refine z_pushJ gp_86_28 ?_
                refine z_goto gi_86_29 ?_
                refine z_bret1 gi_86_33 gr_86 ?_
                show zW _ _ _ _ _ _ _ _ _ _
                refine z_if_eqF gi_103_75 zr_1 (by decide) ?_
                refine z_pushJ gp_103_78 ?_
                refine z_iload6 rfl ?_
                refine z_cS2 rfl (Nat.le_of_ble_eq_true rfl) gc_86_II ?_
                refine z_iload0 gi_86_0 ?_
                refine z_if_ltF gi_86_1 zr_1 (by decide) ?_
                refine z_iload0 gi_86_4 ?_
                refine z_pushJ gp_86_5 ?_
                refine z_icmp_geF gi_86_7 zr_1 zr_14 (by decide) ?_
                refine z_iload1 gi_86_10 ?_
                refine z_getS gi_86_11 ?_
                refine z_iload0 gi_86_14 ?_
                refine z_sald (j := 1) (n := 14) (v := 0) gi_86_15 (by decide) rfl (by decide) (by decide) rfl ?_
                refine z_icmp_lt gi_86_16 (by omega) zr_0 (fun h10 => ?_) (fun h10 => ?_)
                · refine z_pushJ gp_86_32 ?_
                  refine z_bret0 gi_86_33 gr_86 ?_
                  show zW _ _ _ _ _ _ _ _ _ _
                  refine z_if_eqT gi_103_84 zr_0 (by decide) ?_
                  refine z_pushJ gp_103_96 ?_
                  refine z_bret0 gi_103_97 gr_103 ?_
                  show zW _ _ _ _ _ _ _ _ _ _
                  refine z_if_eqT gi_102_74 zr_0 (by decide) ?_
                  refine z_iload5 gi_102_83 ?_
                  refine z_iret gi_102_85 gr_102 ?_
                  first | exact KK k hok (by omega) (Or.inl (by omega)) | exact KK k hok (by omega) (Or.inr (fun q => by obtain ⟨⟨q1, q2, q3⟩, q4, q5, q6⟩ := q; omega))
                · refine z_iload1 gi_86_19 ?_
                  refine z_getS gi_86_20 ?_
                  refine z_iload0 gi_86_23 ?_
                  refine z_sald (j := 2) (n := 14) (v := 99) gi_86_24 (by decide) rfl (by decide) (by decide) rfl ?_
                  refine z_icmp_gt gi_86_25 (by omega) zr_99 (fun h11 => ?_) (fun h11 => ?_)
                  · refine z_pushJ gp_86_32 ?_
                    refine z_bret0 gi_86_33 gr_86 ?_
                    show zW _ _ _ _ _ _ _ _ _ _
                    refine z_if_eqT gi_103_84 zr_0 (by decide) ?_
                    refine z_pushJ gp_103_96 ?_
                    refine z_bret0 gi_103_97 gr_103 ?_
                    show zW _ _ _ _ _ _ _ _ _ _
                    refine z_if_eqT gi_102_74 zr_0 (by decide) ?_
                    refine z_iload5 gi_102_83 ?_
                    refine z_iret gi_102_85 gr_102 ?_
                    first | exact KK k hok (by omega) (Or.inl (by omega)) | exact KK k hok (by omega) (Or.inr (fun q => by obtain ⟨⟨q1, q2, q3⟩, q4, q5, q6⟩ := q; omega))
                  · refine z_pushJ gp_86_28 ?_
                    refine z_goto gi_86_29 ?_
                    refine z_bret1 gi_86_33 gr_86 ?_
                    show zW _ _ _ _ _ _ _ _ _ _
                    refine z_if_eqF gi_103_84 zr_1 (by decide) ?_
                    refine z_pushJ gp_103_87 ?_
                    refine z_iload7 rfl ?_
                    refine z_cS2 rfl (Nat.le_of_ble_eq_true rfl) gc_86_II ?_
                    refine z_iload0 gi_86_0 ?_
                    refine z_if_ltF gi_86_1 zr_2 (by decide) ?_
                    refine z_iload0 gi_86_4 ?_
                    refine z_pushJ gp_86_5 ?_
                    refine z_icmp_geF gi_86_7 zr_2 zr_14 (by decide) ?_
                    refine z_iload1 gi_86_10 ?_
                    refine z_getS gi_86_11 ?_
                    refine z_iload0 gi_86_14 ?_
                    refine z_sald (j := 1) (n := 14) (v := 0) gi_86_15 (by decide) rfl (by decide) (by decide) rfl ?_
                    refine z_icmp_lt gi_86_16 (by omega) zr_0 (fun h12 => ?_) (fun h12 => ?_)
                    · refine z_pushJ gp_86_32 ?_
                      refine z_bret0 gi_86_33 gr_86 ?_
                      show zW _ _ _ _ _ _ _ _ _ _
                      refine z_if_neF gi_103_93 zr_0 (by decide) ?_
                      refine z_pushJ gp_103_96 ?_
                      refine z_bret0 gi_103_97 gr_103 ?_
                      show zW _ _ _ _ _ _ _ _ _ _
                      refine z_if_eqT gi_102_74 zr_0 (by decide) ?_
                      refine z_iload5 gi_102_83 ?_
                      refine z_iret gi_102_85 gr_102 ?_
                      first | exact KK k hok (by omega) (Or.inl (by omega)) | exact KK k hok (by omega) (Or.inr (fun q => by obtain ⟨⟨q1, q2, q3⟩, q4, q5, q6⟩ := q; omega))
                    · refine z_iload1 gi_86_19 ?_
                      refine z_getS gi_86_20 ?_
                      refine z_iload0 gi_86_23 ?_
                      refine z_sald (j := 2) (n := 14) (v := 99) gi_86_24 (by decide) rfl (by decide) (by decide) rfl ?_
                      refine z_icmp_gt gi_86_25 (by omega) zr_99 (fun h13 => ?_) (fun h13 => ?_)
                      · refine z_pushJ gp_86_32 ?_
                        refine z_bret0 gi_86_33 gr_86 ?_
                        show zW _ _ _ _ _ _ _ _ _ _
                        refine z_if_neF gi_103_93 zr_0 (by decide) ?_
                        refine z_pushJ gp_103_96 ?_
                        refine z_bret0 gi_103_97 gr_103 ?_
                        show zW _ _ _ _ _ _ _ _ _ _
                        refine z_if_eqT gi_102_74 zr_0 (by decide) ?_
                        refine z_iload5 gi_102_83 ?_
                        refine z_iret gi_102_85 gr_102 ?_
                        first | exact KK k hok (by omega) (Or.inl (by omega)) | exact KK k hok (by omega) (Or.inr (fun q => by obtain ⟨⟨q1, q2, q3⟩, q4, q5, q6⟩ := q; omega))
                      · refine z_pushJ gp_86_28 ?_
                        refine z_goto gi_86_29 ?_
                        refine z_bret1 gi_86_33 gr_86 ?_
                        show zW _ _ _ _ _ _ _ _ _ _
                        refine z_if_neT gi_103_93 zr_1 (by decide) ?_
                        refine z_aload0 rfl ?_
                        refine z_getR (r := 8) rfl gk_0 (hR _ rm_0_1) ?_
                        refine z_iload5 rfl ?_
                        refine z_iload6 rfl ?_
                        refine z_iload7 rfl ?_
                        refine z_callVi (As := [_, _, _]) (le := [some _, some _, some _, some _, none]) rfl rfl gk_8 (Nat.le_of_ble_eq_true rfl) (Nat.le_of_ble_eq_true rfl) rfl ?_
                        refine z_aload0 gi_92_0 ?_
                        refine z_getI (v := n + (k : Int)) gi_92_1 gk_8 ((mix_l (by decide)).trans (plS_8 hn8 k)) ?_
                        refine z_istore (ls1 := [some (.ref 8), some (zi (b (i + 3 * (k : Int)))), some (zi (b (i + 3 * (k : Int) + 1))), some (zi (b (i + 3 * (k : Int) + 2))), some (zi (n + (k : Int)))]) gi_92_4 rfl ?_
                        refine z_aload0 gi_92_6 ?_
                        refine z_dup gi_92_7 rfl ?_
                        refine z_getI (v := n + (k : Int)) gi_92_8 gk_8 ((mix_l (by decide)).trans (plS_8 hn8 k)) ?_
                        refine z_pushJ gp_92_11 ?_
                        refine z_iadd (e := n + (k : Int) + 1) gi_92_12 rfl ?_
                        refine z_putI (y := 2) gi_92_13 rfl gk_8 ?_
                        refine z_aload0 gi_92_16 ?_
                        refine z_iload4 gi_92_17 ?_
                        refine z_pushJ gp_92_19 ?_
                        refine z_iload1 gi_92_20 ?_
                        refine z_callVi (As := [_, _, _]) (le := [some _, some _, some _, some _, none]) gi_92_21 rfl gk_8 (Nat.le_of_ble_eq_true rfl) (Nat.le_of_ble_eq_true rfl) rfl ?_
                        refine z_aload0 gi_91_0 ?_
                        refine z_iload1 gi_91_1 ?_
                        refine z_iload2 gi_91_2 ?_
                        refine z_cV2 gi_91_3 gk_8 go_89 (Nat.le_of_ble_eq_true rfl) gc_89_RII ?_
                        refine z_iload2 gi_89_0 ?_
                        refine z_if_ltF gi_89_1 zr_0 (by decide) ?_
                        refine z_iload2 gi_89_4 ?_
                        refine z_pushJ gp_89_5 ?_
                        refine z_icmp_ltT gi_89_7 zr_0 zr_14 (by decide) ?_
                        refine z_iload2 gi_89_12 ?_
                        refine z_pushJ gp_89_13 ?_
                        refine z_icmp_geF gi_89_14 zr_0 zr_5 (by decide) ?_
                        refine z_aload0 gi_89_17 ?_
                        refine z_iload1 gi_89_18 ?_
                        refine z_cV1 gi_89_19 gk_8 go_87 (Nat.le_of_ble_eq_true rfl) gc_87_RI ?_
                        refine z_iload1 gi_87_0 ?_
                        refine z_if_ltF gi_87_1 (by omega) (by omega) ?_
                        refine z_iload1 gi_87_4 ?_
                        refine z_aload0 gi_87_5 ?_
                        refine z_getI (v := n + (k : Int) + 1) gi_87_6 gk_8 (zU_e) ?_
                        refine z_icmp_geF gi_87_9 (by omega) (by omega) (by omega) ?_
                        refine z_pushJ gp_87_12 ?_
                        refine z_goto gi_87_13 ?_
                        refine z_bret1 gi_87_17 gr_87 ?_
                        show zW _ _ _ _ _ _ _ _ _ _
                        refine z_if_eqF gi_89_22 zr_1 (by decide) ?_
                        refine z_iload1 gi_89_25 ?_
                        refine z_pushJ gp_89_26 ?_
                        refine z_imul (e := (n + (k : Int)) * 5) gi_89_27 rfl ?_
                        refine z_iload2 gi_89_28 ?_
                        refine z_iadd (e := (n + (k : Int)) * 5 + 0) gi_89_29 rfl ?_
                        refine z_goto gi_89_30 ?_
                        refine z_iret gi_89_34 gr_89 ?_
                        show zW _ _ _ _ _ _ _ _ _ _
                        refine z_istore (ls1 := [some (.ref 8), some (zi (n + (k : Int))), some (zi 0), some (zi (b (i + 3 * (k : Int)))), some (zi ((n + (k : Int)) * 5 + 0))]) gi_91_6 rfl ?_
                        refine z_iload4 gi_91_8 ?_
                        refine z_if_ltF gi_91_10 (by omega) (by omega) ?_
                        refine z_aload0 gi_91_13 ?_
                        refine z_getR (r := 9) gi_91_14 gk_8 (hR _ rm_8_1) ?_
                        refine z_iload4 gi_91_17 ?_
                        refine z_iload3 gi_91_19 ?_
                        refine z_iast (e := b (i + 3 * (k : Int))) gi_91_20 gk_9 (by decide) (by omega) rfl ?_
                        refine z_vret gi_91_21 gr_91 ?_
                        show zW _ _ _ _ _ _ _ _ _ _
                        refine z_aload0 gi_92_24 ?_
                        refine z_iload4 gi_92_25 ?_
                        refine z_pushJ gp_92_27 ?_
                        refine z_iload2 gi_92_28 ?_
                        refine z_callVi (As := [_, _, _]) (le := [some _, some _, some _, some _, none]) gi_92_29 rfl gk_8 (Nat.le_of_ble_eq_true rfl) (Nat.le_of_ble_eq_true rfl) rfl ?_
                        refine z_aload0 gi_91_0 ?_
                        refine z_iload1 gi_91_1 ?_
                        refine z_iload2 gi_91_2 ?_
                        refine z_cV2 gi_91_3 gk_8 go_89 (Nat.le_of_ble_eq_true rfl) gc_89_RII ?_
                        refine z_iload2 gi_89_0 ?_
                        refine z_if_ltF gi_89_1 zr_1 (by decide) ?_
                        refine z_iload2 gi_89_4 ?_
                        refine z_pushJ gp_89_5 ?_
                        refine z_icmp_ltT gi_89_7 zr_1 zr_14 (by decide) ?_
                        refine z_iload2 gi_89_12 ?_
                        refine z_pushJ gp_89_13 ?_
                        refine z_icmp_geF gi_89_14 zr_1 zr_5 (by decide) ?_
                        refine z_aload0 gi_89_17 ?_
                        refine z_iload1 gi_89_18 ?_
                        refine z_cV1 gi_89_19 gk_8 go_87 (Nat.le_of_ble_eq_true rfl) gc_87_RI ?_
                        refine z_iload1 gi_87_0 ?_
                        refine z_if_ltF gi_87_1 (by omega) (by omega) ?_
                        refine z_iload1 gi_87_4 ?_
                        refine z_aload0 gi_87_5 ?_
                        refine z_getI (v := n + (k : Int) + 1) gi_87_6 gk_8 ((zU_n (by decide)).trans (zU_e)) ?_
                        refine z_icmp_geF gi_87_9 (by omega) (by omega) (by omega) ?_
                        refine z_pushJ gp_87_12 ?_
                        refine z_goto gi_87_13 ?_
                        refine z_bret1 gi_87_17 gr_87 ?_
                        show zW _ _ _ _ _ _ _ _ _ _
                        refine z_if_eqF gi_89_22 zr_1 (by decide) ?_
                        refine z_iload1 gi_89_25 ?_
                        refine z_pushJ gp_89_26 ?_
                        refine z_imul (e := (n + (k : Int)) * 5) gi_89_27 rfl ?_
                        refine z_iload2 gi_89_28 ?_
                        refine z_iadd (e := (n + (k : Int)) * 5 + 1) gi_89_29 rfl ?_
                        refine z_goto gi_89_30 ?_
                        refine z_iret gi_89_34 gr_89 ?_
                        show zW _ _ _ _ _ _ _ _ _ _
                        refine z_istore (ls1 := [some (.ref 8), some (zi (n + (k : Int))), some (zi 1), some (zi (b (i + 3 * (k : Int) + 1))), some (zi ((n + (k : Int)) * 5 + 1))]) gi_91_6 rfl ?_
                        refine z_iload4 gi_91_8 ?_
                        refine z_if_ltF gi_91_10 (by omega) (by omega) ?_
                        refine z_aload0 gi_91_13 ?_
                        refine z_getR (r := 9) gi_91_14 gk_8 (hR _ rm_8_1) ?_
                        refine z_iload4 gi_91_17 ?_
                        refine z_iload3 gi_91_19 ?_
                        refine z_iast (e := b (i + 3 * (k : Int) + 1)) gi_91_20 gk_9 (by decide) (by omega) rfl ?_
                        refine z_vret gi_91_21 gr_91 ?_
                        show zW _ _ _ _ _ _ _ _ _ _
                        refine z_aload0 gi_92_32 ?_
                        refine z_iload4 gi_92_33 ?_
                        refine z_pushJ gp_92_35 ?_
                        refine z_iload3 gi_92_36 ?_
                        refine z_callVi (As := [_, _, _]) (le := [some _, some _, some _, some _, none]) gi_92_37 rfl gk_8 (Nat.le_of_ble_eq_true rfl) (Nat.le_of_ble_eq_true rfl) rfl ?_
                        refine z_aload0 gi_91_0 ?_
                        refine z_iload1 gi_91_1 ?_
                        refine z_iload2 gi_91_2 ?_
                        refine z_cV2 gi_91_3 gk_8 go_89 (Nat.le_of_ble_eq_true rfl) gc_89_RII ?_
                        refine z_iload2 gi_89_0 ?_
                        refine z_if_ltF gi_89_1 zr_2 (by decide) ?_
                        refine z_iload2 gi_89_4 ?_
                        refine z_pushJ gp_89_5 ?_
                        refine z_icmp_ltT gi_89_7 zr_2 zr_14 (by decide) ?_
                        refine z_iload2 gi_89_12 ?_
                        refine z_pushJ gp_89_13 ?_
                        refine z_icmp_geF gi_89_14 zr_2 zr_5 (by decide) ?_
                        refine z_aload0 gi_89_17 ?_
                        refine z_iload1 gi_89_18 ?_
                        refine z_cV1 gi_89_19 gk_8 go_87 (Nat.le_of_ble_eq_true rfl) gc_87_RI ?_
                        refine z_iload1 gi_87_0 ?_
                        refine z_if_ltF gi_87_1 (by omega) (by omega) ?_
                        refine z_iload1 gi_87_4 ?_
                        refine z_aload0 gi_87_5 ?_
                        refine z_getI (v := n + (k : Int) + 1) gi_87_6 gk_8 ((zU_n (by decide)).trans ((zU_n (by decide)).trans (zU_e))) ?_
                        refine z_icmp_geF gi_87_9 (by omega) (by omega) (by omega) ?_
                        refine z_pushJ gp_87_12 ?_
                        refine z_goto gi_87_13 ?_
                        refine z_bret1 gi_87_17 gr_87 ?_
                        show zW _ _ _ _ _ _ _ _ _ _
                        refine z_if_eqF gi_89_22 zr_1 (by decide) ?_
                        refine z_iload1 gi_89_25 ?_
                        refine z_pushJ gp_89_26 ?_
                        refine z_imul (e := (n + (k : Int)) * 5) gi_89_27 rfl ?_
                        refine z_iload2 gi_89_28 ?_
                        refine z_iadd (e := (n + (k : Int)) * 5 + 2) gi_89_29 rfl ?_
                        refine z_goto gi_89_30 ?_
                        refine z_iret gi_89_34 gr_89 ?_
                        show zW _ _ _ _ _ _ _ _ _ _
                        refine z_istore (ls1 := [some (.ref 8), some (zi (n + (k : Int))), some (zi 2), some (zi (b (i + 3 * (k : Int) + 2))), some (zi ((n + (k : Int)) * 5 + 2))]) gi_91_6 rfl ?_
                        refine z_iload4 gi_91_8 ?_
                        refine z_if_ltF gi_91_10 (by omega) (by omega) ?_
                        refine z_aload0 gi_91_13 ?_
                        refine z_getR (r := 9) gi_91_14 gk_8 (hR _ rm_8_1) ?_
                        refine z_iload4 gi_91_17 ?_
                        refine z_iload3 gi_91_19 ?_
                        refine z_iast (e := b (i + 3 * (k : Int) + 2)) gi_91_20 gk_9 (by decide) (by omega) rfl ?_
                        refine z_vret gi_91_21 gr_91 ?_
                        show zW _ _ _ _ _ _ _ _ _ _
                        refine z_aload0 gi_92_40 ?_
                        refine z_iload4 gi_92_41 ?_
                        refine z_pushJ gp_92_43 ?_
                        refine z_getS gi_92_44 ?_
                        refine z_pushJ gp_92_47 ?_
                        refine z_sald (j := 0) (n := 14) (v := 5) gi_92_48 (by decide) rfl (by decide) (by decide) rfl ?_
                        refine z_callVi (As := [_, _, _]) (le := [some _, some _, some _, some _, none]) gi_92_49 rfl gk_8 (Nat.le_of_ble_eq_true rfl) (Nat.le_of_ble_eq_true rfl) rfl ?_
                        refine z_aload0 gi_91_0 ?_
                        refine z_iload1 gi_91_1 ?_
                        refine z_iload2 gi_91_2 ?_
                        refine z_cV2 gi_91_3 gk_8 go_89 (Nat.le_of_ble_eq_true rfl) gc_89_RII ?_
                        refine z_iload2 gi_89_0 ?_
                        refine z_if_ltF gi_89_1 zr_3 (by decide) ?_
                        refine z_iload2 gi_89_4 ?_
                        refine z_pushJ gp_89_5 ?_
                        refine z_icmp_ltT gi_89_7 zr_3 zr_14 (by decide) ?_
                        refine z_iload2 gi_89_12 ?_
                        refine z_pushJ gp_89_13 ?_
                        refine z_icmp_geF gi_89_14 zr_3 zr_5 (by decide) ?_
                        refine z_aload0 gi_89_17 ?_
                        refine z_iload1 gi_89_18 ?_
                        refine z_cV1 gi_89_19 gk_8 go_87 (Nat.le_of_ble_eq_true rfl) gc_87_RI ?_
                        refine z_iload1 gi_87_0 ?_
                        refine z_if_ltF gi_87_1 (by omega) (by omega) ?_
                        refine z_iload1 gi_87_4 ?_
                        refine z_aload0 gi_87_5 ?_
                        refine z_getI (v := n + (k : Int) + 1) gi_87_6 gk_8 ((zU_n (by decide)).trans ((zU_n (by decide)).trans ((zU_n (by decide)).trans (zU_e)))) ?_
                        refine z_icmp_geF gi_87_9 (by omega) (by omega) (by omega) ?_
                        refine z_pushJ gp_87_12 ?_
                        refine z_goto gi_87_13 ?_
                        refine z_bret1 gi_87_17 gr_87 ?_
                        show zW _ _ _ _ _ _ _ _ _ _
                        refine z_if_eqF gi_89_22 zr_1 (by decide) ?_
                        refine z_iload1 gi_89_25 ?_
                        refine z_pushJ gp_89_26 ?_
                        refine z_imul (e := (n + (k : Int)) * 5) gi_89_27 rfl ?_
                        refine z_iload2 gi_89_28 ?_
                        refine z_iadd (e := (n + (k : Int)) * 5 + 3) gi_89_29 rfl ?_
                        refine z_goto gi_89_30 ?_
                        refine z_iret gi_89_34 gr_89 ?_
                        show zW _ _ _ _ _ _ _ _ _ _
                        refine z_istore (ls1 := [some (.ref 8), some (zi (n + (k : Int))), some (zi 3), some (zi 5), some (zi ((n + (k : Int)) * 5 + 3))]) gi_91_6 rfl ?_
                        refine z_iload4 gi_91_8 ?_
                        refine z_if_ltF gi_91_10 (by omega) (by omega) ?_
                        refine z_aload0 gi_91_13 ?_
                        refine z_getR (r := 9) gi_91_14 gk_8 (hR _ rm_8_1) ?_
                        refine z_iload4 gi_91_17 ?_
                        refine z_iload3 gi_91_19 ?_
                        refine z_iast (e := 5) gi_91_20 gk_9 (by decide) (by omega) rfl ?_
                        refine z_vret gi_91_21 gr_91 ?_
                        show zW _ _ _ _ _ _ _ _ _ _
                        refine z_aload0 gi_92_52 ?_
                        refine z_iload4 gi_92_53 ?_
                        refine z_pushJ gp_92_55 ?_
                        refine z_getS gi_92_56 ?_
                        refine z_pushJ gp_92_59 ?_
                        refine z_sald (j := 0) (n := 14) (v := 0) gi_92_60 (by decide) rfl (by decide) (by decide) rfl ?_
                        refine z_callVi (As := [_, _, _]) (le := [some _, some _, some _, some _, none]) gi_92_61 rfl gk_8 (Nat.le_of_ble_eq_true rfl) (Nat.le_of_ble_eq_true rfl) rfl ?_
                        refine z_aload0 gi_91_0 ?_
                        refine z_iload1 gi_91_1 ?_
                        refine z_iload2 gi_91_2 ?_
                        refine z_cV2 gi_91_3 gk_8 go_89 (Nat.le_of_ble_eq_true rfl) gc_89_RII ?_
                        refine z_iload2 gi_89_0 ?_
                        refine z_if_ltF gi_89_1 zr_4 (by decide) ?_
                        refine z_iload2 gi_89_4 ?_
                        refine z_pushJ gp_89_5 ?_
                        refine z_icmp_ltT gi_89_7 zr_4 zr_14 (by decide) ?_
                        refine z_iload2 gi_89_12 ?_
                        refine z_pushJ gp_89_13 ?_
                        refine z_icmp_geF gi_89_14 zr_4 zr_5 (by decide) ?_
                        refine z_aload0 gi_89_17 ?_
                        refine z_iload1 gi_89_18 ?_
                        refine z_cV1 gi_89_19 gk_8 go_87 (Nat.le_of_ble_eq_true rfl) gc_87_RI ?_
                        refine z_iload1 gi_87_0 ?_
                        refine z_if_ltF gi_87_1 (by omega) (by omega) ?_
                        refine z_iload1 gi_87_4 ?_
                        refine z_aload0 gi_87_5 ?_
                        refine z_getI (v := n + (k : Int) + 1) gi_87_6 gk_8 ((zU_n (by decide)).trans ((zU_n (by decide)).trans ((zU_n (by decide)).trans ((zU_n (by decide)).trans (zU_e))))) ?_
                        refine z_icmp_geF gi_87_9 (by omega) (by omega) (by omega) ?_
                        refine z_pushJ gp_87_12 ?_
                        refine z_goto gi_87_13 ?_
                        refine z_bret1 gi_87_17 gr_87 ?_
                        show zW _ _ _ _ _ _ _ _ _ _
                        refine z_if_eqF gi_89_22 zr_1 (by decide) ?_
                        refine z_iload1 gi_89_25 ?_
                        refine z_pushJ gp_89_26 ?_
                        refine z_imul (e := (n + (k : Int)) * 5) gi_89_27 rfl ?_
                        refine z_iload2 gi_89_28 ?_
                        refine z_iadd (e := (n + (k : Int)) * 5 + 4) gi_89_29 rfl ?_
                        refine z_goto gi_89_30 ?_
                        refine z_iret gi_89_34 gr_89 ?_
                        show zW _ _ _ _ _ _ _ _ _ _
                        refine z_istore (ls1 := [some (.ref 8), some (zi (n + (k : Int))), some (zi 4), some (zi 0), some (zi ((n + (k : Int)) * 5 + 4))]) gi_91_6 rfl ?_
                        refine z_iload4 gi_91_8 ?_
                        refine z_if_ltF gi_91_10 (by omega) (by omega) ?_
                        refine z_aload0 gi_91_13 ?_
                        refine z_getR (r := 9) gi_91_14 gk_8 (hR _ rm_8_1) ?_
                        refine z_iload4 gi_91_17 ?_
                        refine z_iload3 gi_91_19 ?_
                        refine z_iast (e := 0) gi_91_20 gk_9 (by decide) (by omega) rfl ?_
                        refine z_vret gi_91_21 gr_91 ?_
                        show zW _ _ _ _ _ _ _ _ _ _
                        refine z_iload4 gi_92_64 ?_
                        refine z_iret gi_92_66 gr_92 ?_
                        show zW _ _ _ _ _ _ _ _ _ _
                        refine z_pop rfl rfl ?_
                        refine z_pushJ gp_103_112 ?_
                        refine z_bret1 rfl gr_103 ?_
                        show zW _ _ _ _ _ _ _ _ _ _
                        refine z_if_eqF gi_102_74 zr_1 (by decide) ?_
                        refine z_iinc (c := 1) (e := (k : Int) + 1) (ls1 := [some (.ref 0), some (zi s), some (zi i), some (zi c), some (.ref (38 + 2 * s.toNat)), some (zi ((k : Int) + 1))]) rfl rfl rfl rfl rfl ?_
                        refine z_goto rfl ?_
                        show zW _ _ _ _ [some (.ref 0), some (zi s), some (zi i), some (zi c), some (.ref (38 + 2 * s.toNat)), some (zi ((k : Int) + 1))] [] _ _ _ _
                        have hg := ih (k + 1) (by omega) (by omega) (fun t ht => by by_cases e : t = k; (subst e; exact ⟨⟨by omega, by omega, by omega⟩, ⟨by omega, by omega⟩, ⟨by omega, by omega⟩, by omega, by omega⟩); exact hok t (by omega))
                        rw [show plS n b i J (k + 1) = plA (n + k) (plS n b i J k) (b (i + 3 * k)) (b (i + 3 * k + 1)) (b (i + 3 * k + 2)) from rfl, plA_l] at hg
                        exact hg
          · refine z_pushJ gp_103_32 ?_
            refine z_bret0 gi_103_33 gr_103 ?_
            show zW _ _ _ _ _ _ _ _ _ _
            refine z_if_eqT gi_102_74 zr_0 (by decide) ?_
            refine z_iload5 gi_102_83 ?_
            refine z_iret gi_102_85 gr_102 ?_
            first | exact KK k hok (by omega) (Or.inl (by omega)) | exact KK k hok (by omega) (Or.inr (fun q => by obtain ⟨⟨q1, q2, q3⟩, q4, q5, q6⟩ := q; omega))
theorem placesR_z {X : Nat × (Nat → Int32)} {d : Nat} {J M : zA} {R : zR} {P : zP} {s i c n z : Int} {b : Int → Int} (hR : zRoR R) (hs : 0 ≤ s ∧ s < 6) (hi : -2147483648 ≤ i ∧ i < 2147483648) (hc : 1 ≤ c ∧ c ≤ 8) (hn : 0 ≤ n ∧ n ≤ 8) (hzr : 0 ≤ z ∧ z ≤ 60) (hbr : ∀ y, 0 ≤ y → y < z → -128 ≤ b y ∧ b y ≤ 127) (hn5 : J 50 1 = n) (hz : J 84 s = z) (hb : ∀ y, 0 ≤ y → y < z → M 85 (60 * s + y) = b y) {K : Nat} (hok : ∀ t, t < K → pOk n b i z t) (hKc : (K : Int) ≤ c) (hend : (K : Int) = c ∨ ¬ pOk n b i z K) (KK : P (some (zi (K : Int))) (mix (plS n b i J K) (plS n b i J K)) M R) : ∀ (j k : Nat) (e5 e6 e7 : Option Value), k + j = K → k ≤ K → zW X (d + 6) 154 58 [some (.ref 50), some (zi s), some (zi i), some (zi c), some (zi (k : Int)), e5, e6, e7] [] (mix (plS n b i J K) (plS n b i J k)) M R P := by
  intro j
  induction j with
  | zero =>
    intro k e5 e6 e7 hk hkK
    obtain rfl : k = K := by omega
    by_cases hkc : (k : Int) = c
    · refine z_iload rfl rfl ?_
      refine z_iload rfl rfl ?_
      refine z_icmp_geT rfl (by omega) (by omega) (by omega) ?_
      refine z_iload rfl rfl ?_
      refine z_iret rfl rfl ?_
      subst hkc
      exact KK
    · have hno : ¬ pOk n b i z k := by
        rcases hend with h | h
        · exact absurd h hkc
        · exact h
      have hnk : n + (k : Int) ≤ 8 := by
        by_cases q0 : k = 0
        · omega
        · have q := (hok (k - 1) (by omega)).1
          omega
      show zW _ _ _ _ [some (.ref 50), some (zi s), some (zi i), some (zi c), some (zi (k : Int)), e5, e6, e7] _ _ _ _ _
      refine z_iload4 gi_154_58 ?_
      refine z_iload3 gi_154_60 ?_
      refine z_icmp_geF gi_154_61 (by omega) (by omega) (by omega) ?_
      refine z_iload2 gi_154_64 ?_
      refine z_i2l gi_154_65 (by omega) ?_
      refine z_pushJ gp_154_66 ?_
      refine z_iload4 gi_154_67 ?_
      refine z_imul (e := 3 * (k : Int)) gi_154_69 rfl ?_
      refine z_i2l gi_154_70 (by omega) ?_
      refine z_ladd (e := i + 3 * (k : Int)) gi_154_71 rfl ?_
      refine z_lstore (ls1 := [some (.ref 50), some (zi s), some (zi i), some (zi c), some (zi (k : Int)), some (zl (i + 3 * (k : Int))), none, e7]) gi_154_72 rfl ?_
      refine z_lload5 gi_154_74 ?_
      refine z_pushL (z := 0) gi_154_76 rfl ?_
      refine z_lcmp_lt gi_154_77 gi_154_78 (by omega) (by omega) (fun h1 => ?_) (fun h1 => ?_)
      · refine z_iload4 gi_154_107 ?_
        refine z_iret gi_154_109 gr_154 ?_
        exact KK
      · refine z_lload5 gi_154_81 ?_
        refine z_pushL (z := 2) gi_154_83 rfl ?_
        refine z_ladd (e := i + 3 * (k : Int) + 2) gi_154_86 rfl ?_
        refine z_aload0 gi_154_87 ?_
        refine z_getR (r := 84) gi_154_88 gk_50 (hR _ rm_50_59 (by decide)) ?_
        refine z_iload1 gi_154_91 ?_
        refine z_iald (v := z) gi_154_92 gk_84 (by decide) (by omega) ((mix_h (by decide)).trans ((plS_y (by decide) k).trans hz)) ?_
        refine z_i2l gi_154_93 (by omega) ?_
        refine z_lcmp_ge gi_154_94 gi_154_95 (by omega) (by omega) (fun h2 => ?_) (fun h2 => ?_)
        · refine z_iload4 gi_154_107 ?_
          refine z_iret gi_154_109 gr_154 ?_
          exact KK
        · refine z_aload0 gi_154_98 ?_
          refine z_getI (v := n + (k : Int)) gi_154_99 gk_50 ((mix_h (by decide)).trans (plS_50 hn5 k)) ?_
          refine z_pushJ gp_154_102 ?_
          refine z_icmp_ne gi_154_104 (by omega) zr_8 (fun h3 => ?_) (fun h3 => ?_)
          · refine z_pushJ gp_154_110 ?_
            refine z_iload1 gi_154_112 ?_
            refine z_imul (e := 60 * s) gi_154_113 rfl ?_
            refine z_lload5 gi_154_114 ?_
            refine z_l2i gi_154_116 ?_
            refine z_iadd (e := 60 * s + (i + 3 * (k : Int))) gi_154_117 rfl ?_
            refine z_istore (ls1 := [some (.ref 50), some (zi s), some (zi i), some (zi c), some (zi (k : Int)), some (zl (i + 3 * (k : Int))), none, some (zi (60 * s + (i + 3 * (k : Int))))]) gi_154_118 rfl ?_
            refine z_aload0 gi_154_120 ?_
            refine z_getR (r := 85) gi_154_121 gk_50 (hR _ rm_50_60 (by decide)) ?_
            refine z_iload7 gi_154_124 ?_
            have q4 := hbr (i + 3 * (k : Int)) (by omega) (by omega)
            refine z_lald (v := b (i + 3 * (k : Int))) gi_154_126 gk_85 (by decide) (by omega) ((by rw [show 60 * s + (i + 3 * (k : Int)) = 60 * s + (i + 3 * (k : Int)) by omega]; exact hb _ (by omega) (by omega))) ?_
            refine z_l2i gi_154_127 ?_
            refine z_pushJ gp_154_128 ?_
            refine z_pushJ gp_154_129 ?_
            refine z_cS3 gi_154_131 (Nat.le_of_ble_eq_true rfl) gc_148_III ?_
            refine z_iload0 gi_148_0 ?_
            refine z_iload1 gi_148_1 ?_
            refine z_icmp_lt gi_148_2 (by omega) zr_0 (fun h5 => ?_) (fun h5 => ?_)
            · refine z_pushJ gp_148_14 ?_
              refine z_bret0 gi_148_15 gr_148 ?_
              show zW _ _ _ _ _ _ _ _ _ _
              refine z_if_eqT gi_154_134 zr_0 (by decide) ?_
              refine z_iload4 gi_154_175 ?_
              refine z_iret gi_154_177 gr_154 ?_
              exact KK
            · refine z_iload0 gi_148_5 ?_
              refine z_iload2 gi_148_6 ?_
              refine z_icmp_gt gi_148_7 (by omega) zr_99 (fun h6 => ?_) (fun h6 => ?_)
              · refine z_pushJ gp_148_14 ?_
                refine z_bret0 gi_148_15 gr_148 ?_
                show zW _ _ _ _ _ _ _ _ _ _
                refine z_if_eqT gi_154_134 zr_0 (by decide) ?_
                refine z_iload4 gi_154_175 ?_
                refine z_iret gi_154_177 gr_154 ?_
                exact KK
              · refine z_pushJ gp_148_10 ?_
                refine z_goto gi_148_11 ?_
                refine z_bret1 gi_148_15 gr_148 ?_
                show zW _ _ _ _ _ _ _ _ _ _
                refine z_if_eqF gi_154_134 zr_1 (by decide) ?_
                refine z_aload0 gi_154_137 ?_
                refine z_getR (r := 85) gi_154_138 gk_50 (hR _ rm_50_60 (by decide)) ?_
                refine z_iload7 gi_154_141 ?_
                refine z_pushJ gp_154_143 ?_
                refine z_iadd (e := 60 * s + (i + 3 * (k : Int)) + 1) gi_154_144 rfl ?_
                have q7 := hbr (i + 3 * (k : Int) + 1) (by omega) (by omega)
                refine z_lald (v := b (i + 3 * (k : Int) + 1)) gi_154_145 gk_85 (by decide) (by omega) ((by rw [show 60 * s + (i + 3 * (k : Int)) + 1 = 60 * s + (i + 3 * (k : Int) + 1) by omega]; exact hb _ (by omega) (by omega))) ?_
                refine z_l2i gi_154_146 ?_
                refine z_pushJ gp_154_147 ?_
                refine z_pushJ gp_154_148 ?_
                refine z_cS3 gi_154_150 (Nat.le_of_ble_eq_true rfl) gc_148_III ?_
                refine z_iload0 gi_148_0 ?_
                refine z_iload1 gi_148_1 ?_
                refine z_icmp_lt gi_148_2 (by omega) zr_0 (fun h8 => ?_) (fun h8 => ?_)
                · refine z_pushJ gp_148_14 ?_
                  refine z_bret0 gi_148_15 gr_148 ?_
                  show zW _ _ _ _ _ _ _ _ _ _
                  refine z_if_eqT gi_154_153 zr_0 (by decide) ?_
                  refine z_iload4 gi_154_175 ?_
                  refine z_iret gi_154_177 gr_154 ?_
                  exact KK
                · refine z_iload0 gi_148_5 ?_
                  refine z_iload2 gi_148_6 ?_
                  refine z_icmp_gt gi_148_7 (by omega) zr_99 (fun h9 => ?_) (fun h9 => ?_)
                  · refine z_pushJ gp_148_14 ?_
                    refine z_bret0 gi_148_15 gr_148 ?_
                    show zW _ _ _ _ _ _ _ _ _ _
                    refine z_if_eqT gi_154_153 zr_0 (by decide) ?_
                    refine z_iload4 gi_154_175 ?_
                    refine z_iret gi_154_177 gr_154 ?_
                    exact KK
                  · refine z_pushJ gp_148_10 ?_
                    refine z_goto gi_148_11 ?_
                    refine z_bret1 gi_148_15 gr_148 ?_
                    show zW _ _ _ _ _ _ _ _ _ _
                    refine z_if_eqF gi_154_153 zr_1 (by decide) ?_
                    refine z_aload0 gi_154_156 ?_
                    refine z_getR (r := 85) gi_154_157 gk_50 (hR _ rm_50_60 (by decide)) ?_
                    refine z_iload7 gi_154_160 ?_
                    refine z_pushJ gp_154_162 ?_
                    refine z_iadd (e := 60 * s + (i + 3 * (k : Int)) + 2) gi_154_163 rfl ?_
                    have q10 := hbr (i + 3 * (k : Int) + 2) (by omega) (by omega)
                    refine z_lald (v := b (i + 3 * (k : Int) + 2)) gi_154_164 gk_85 (by decide) (by omega) ((by rw [show 60 * s + (i + 3 * (k : Int)) + 2 = 60 * s + (i + 3 * (k : Int) + 2) by omega]; exact hb _ (by omega) (by omega))) ?_
                    refine z_l2i gi_154_165 ?_
                    refine z_pushJ gp_154_166 ?_
                    refine z_pushJ gp_154_167 ?_
                    refine z_cS3 gi_154_169 (Nat.le_of_ble_eq_true rfl) gc_148_III ?_
                    refine z_iload0 gi_148_0 ?_
                    refine z_iload1 gi_148_1 ?_
                    refine z_icmp_lt gi_148_2 (by omega) zr_0 (fun h11 => ?_) (fun h11 => ?_)
                    · refine z_pushJ gp_148_14 ?_
                      refine z_bret0 gi_148_15 gr_148 ?_
                      show zW _ _ _ _ _ _ _ _ _ _
                      refine z_if_neF gi_154_172 zr_0 (by decide) ?_
                      refine z_iload4 gi_154_175 ?_
                      refine z_iret gi_154_177 gr_154 ?_
                      exact KK
                    · refine z_iload0 gi_148_5 ?_
                      refine z_iload2 gi_148_6 ?_
                      refine z_icmp_gt gi_148_7 (by omega) zr_99 (fun h12 => ?_) (fun h12 => ?_)
                      · refine z_pushJ gp_148_14 ?_
                        refine z_bret0 gi_148_15 gr_148 ?_
                        show zW _ _ _ _ _ _ _ _ _ _
                        refine z_if_neF gi_154_172 zr_0 (by decide) ?_
                        refine z_iload4 gi_154_175 ?_
                        refine z_iret gi_154_177 gr_154 ?_
                        exact KK
                      · refine z_pushJ gp_148_10 ?_
                        refine z_goto gi_148_11 ?_
                        refine z_bret1 gi_148_15 gr_148 ?_
                        show zW _ _ _ _ _ _ _ _ _ _
                        refine z_if_neT gi_154_172 zr_1 (by decide) ?_
                        refine z_aload0 gi_154_178 ?_
                        refine z_aload0 gi_154_179 ?_
                        refine z_getR (r := 85) gi_154_180 gk_50 (hR _ rm_50_60 (by decide)) ?_
                        refine z_iload7 gi_154_183 ?_
                        have q13 := hbr (i + 3 * (k : Int)) (by omega) (by omega)
                        refine z_lald (v := b (i + 3 * (k : Int))) gi_154_185 gk_85 (by decide) (by omega) ((by rw [show 60 * s + (i + 3 * (k : Int)) = 60 * s + (i + 3 * (k : Int)) by omega]; exact hb _ (by omega) (by omega))) ?_
                        refine z_l2i gi_154_186 ?_
                        refine z_aload0 gi_154_187 ?_
                        refine z_getR (r := 85) gi_154_188 gk_50 (hR _ rm_50_60 (by decide)) ?_
                        refine z_iload7 gi_154_191 ?_
                        refine z_pushJ gp_154_193 ?_
                        refine z_iadd (e := 60 * s + (i + 3 * (k : Int)) + 1) gi_154_194 rfl ?_
                        have q14 := hbr (i + 3 * (k : Int) + 1) (by omega) (by omega)
                        refine z_lald (v := b (i + 3 * (k : Int) + 1)) gi_154_195 gk_85 (by decide) (by omega) ((by rw [show 60 * s + (i + 3 * (k : Int)) + 1 = 60 * s + (i + 3 * (k : Int) + 1) by omega]; exact hb _ (by omega) (by omega))) ?_
                        refine z_l2i gi_154_196 ?_
                        refine z_aload0 gi_154_197 ?_
                        refine z_getR (r := 85) gi_154_198 gk_50 (hR _ rm_50_60 (by decide)) ?_
                        refine z_iload7 gi_154_201 ?_
                        refine z_pushJ gp_154_203 ?_
                        refine z_iadd (e := 60 * s + (i + 3 * (k : Int)) + 2) gi_154_204 rfl ?_
                        have q15 := hbr (i + 3 * (k : Int) + 2) (by omega) (by omega)
                        refine z_lald (v := b (i + 3 * (k : Int) + 2)) gi_154_205 gk_85 (by decide) (by omega) ((by rw [show 60 * s + (i + 3 * (k : Int)) + 2 = 60 * s + (i + 3 * (k : Int) + 2) by omega]; exact hb _ (by omega) (by omega))) ?_
                        refine z_l2i gi_154_206 ?_
                        refine z_cV3 gi_154_207 gk_50 go_152 (Nat.le_of_ble_eq_true rfl) gc_152_RIII ?_
                        refine z_aload0 gi_152_0 ?_
                        refine z_getR (r := 51) gi_152_1 gk_50 (hR _ rm_50_2 (by decide)) ?_
                        refine z_aload0 gi_152_4 ?_
                        refine z_getI (v := n + (k : Int)) gi_152_5 gk_50 ((mix_h (by decide)).trans (plS_50 hn5 k)) ?_
                        refine z_iload1 gi_152_8 ?_
                        refine z_iast (e := b (i + 3 * (k : Int))) gi_152_9 gk_51 (by decide) (by omega) rfl ?_
                        refine z_aload0 gi_152_10 ?_
                        refine z_getR (r := 52) gi_152_11 gk_50 (hR _ rm_50_3 (by decide)) ?_
                        refine z_aload0 gi_152_14 ?_
                        refine z_getI (v := n + (k : Int)) gi_152_15 gk_50 ((zU_n (by decide)).trans ((mix_h (by decide)).trans (plS_50 hn5 k))) ?_
                        refine z_iload2 gi_152_18 ?_
                        refine z_iast (e := b (i + 3 * (k : Int) + 1)) gi_152_19 gk_52 (by decide) (by omega) rfl ?_
                        refine z_aload0 gi_152_20 ?_
                        refine z_getR (r := 53) gi_152_21 gk_50 (hR _ rm_50_4 (by decide)) ?_
                        refine z_aload0 gi_152_24 ?_
                        refine z_getI (v := n + (k : Int)) gi_152_25 gk_50 ((zU_n (by decide)).trans ((zU_n (by decide)).trans ((mix_h (by decide)).trans (plS_50 hn5 k)))) ?_
                        refine z_iload3 gi_152_28 ?_
                        refine z_iast (e := b (i + 3 * (k : Int) + 2)) gi_152_29 gk_53 (by decide) (by omega) rfl ?_
                        refine z_aload0 gi_152_30 ?_
                        refine z_getR (r := 54) gi_152_31 gk_50 (hR _ rm_50_5 (by decide)) ?_
                        refine z_aload0 gi_152_34 ?_
                        refine z_getI (v := n + (k : Int)) gi_152_35 gk_50 ((zU_n (by decide)).trans ((zU_n (by decide)).trans ((zU_n (by decide)).trans ((mix_h (by decide)).trans (plS_50 hn5 k))))) ?_
                        refine z_pushJ gp_152_38 ?_
                        refine z_iast (e := 5) gi_152_39 gk_54 (by decide) (by omega) rfl ?_
                        refine z_aload0 gi_152_40 ?_
                        refine z_getR (r := 55) gi_152_41 gk_50 (hR _ rm_50_6 (by decide)) ?_
                        refine z_aload0 gi_152_44 ?_
                        refine z_getI (v := n + (k : Int)) gi_152_45 gk_50 ((zU_n (by decide)).trans ((zU_n (by decide)).trans ((zU_n (by decide)).trans ((zU_n (by decide)).trans ((mix_h (by decide)).trans (plS_50 hn5 k)))))) ?_
                        refine z_pushJ gp_152_48 ?_
                        refine z_iast (e := 0) gi_152_49 gk_55 (by decide) (by omega) rfl ?_
                        refine z_aload0 gi_152_50 ?_
                        refine z_getR (r := 75) gi_152_51 gk_50 (hR _ rm_50_42 (by decide)) ?_
                        refine z_aload0 gi_152_54 ?_
                        refine z_getI (v := n + (k : Int)) gi_152_55 gk_50 ((zU_n (by decide)).trans ((zU_n (by decide)).trans ((zU_n (by decide)).trans ((zU_n (by decide)).trans ((zU_n (by decide)).trans ((mix_h (by decide)).trans (plS_50 hn5 k))))))) ?_
                        refine z_pushJ gp_152_58 ?_
                        refine z_iast (e := 0) gi_152_59 gk_75 (by decide) (by omega) rfl ?_
                        refine z_aload0 gi_152_60 ?_
                        refine z_getR (r := 76) gi_152_61 gk_50 (hR _ rm_50_43 (by decide)) ?_
                        refine z_aload0 gi_152_64 ?_
                        refine z_getI (v := n + (k : Int)) gi_152_65 gk_50 ((zU_n (by decide)).trans ((zU_n (by decide)).trans ((zU_n (by decide)).trans ((zU_n (by decide)).trans ((zU_n (by decide)).trans ((zU_n (by decide)).trans ((mix_h (by decide)).trans (plS_50 hn5 k)))))))) ?_
                        refine z_pushJ gp_152_68 ?_
                        refine z_iast (e := 0) gi_152_69 gk_76 (by decide) (by omega) rfl ?_
                        refine z_aload0 gi_152_70 ?_
                        refine z_dup gi_152_71 rfl ?_
                        refine z_getI (v := n + (k : Int)) gi_152_72 gk_50 ((zU_n (by decide)).trans ((zU_n (by decide)).trans ((zU_n (by decide)).trans ((zU_n (by decide)).trans ((zU_n (by decide)).trans ((zU_n (by decide)).trans ((zU_n (by decide)).trans ((mix_h (by decide)).trans (plS_50 hn5 k))))))))) ?_
                        refine z_pushJ gp_152_75 ?_
                        refine z_iadd (e := n + (k : Int) + 1) gi_152_76 rfl ?_
                        refine z_putI (y := 1) gi_152_77 rfl gk_50 ?_
                        refine z_aload0 gi_152_80 ?_
                        refine z_getI (v := n + (k : Int) + 1) gi_152_81 gk_50 (zU_e) ?_
                        refine z_pushJ gp_152_84 ?_
                        refine z_isub (e := n + (k : Int) + 1 - 1) gi_152_85 rfl ?_
                        refine z_iret gi_152_86 gr_152 ?_
                        show zW _ _ _ _ _ _ _ _ _ _
                        refine z_pop gi_154_210 rfl ?_
                        refine z_iinc (c := 1) (e := (k : Int) + 1) (ls1 := [some (.ref 50), some (zi s), some (zi i), some (zi c), some (zi ((k : Int) + 1)), some (zl (i + 3 * (k : Int))), none, some (zi (60 * s + (i + 3 * (k : Int))))]) gi_154_211 rfl rfl rfl rfl ?_
                        refine z_goto gi_154_214 ?_
                        show zW _ _ _ _ [some (.ref 50), some (zi s), some (zi i), some (zi c), some (zi ((k : Int) + 1)), some (zl (i + 3 * (k : Int))), none, some (zi (60 * s + (i + 3 * (k : Int))))] [] _ _ _ _
                        exfalso
                        omega
          · refine z_iload4 gi_154_107 ?_
            refine z_iret gi_154_109 gr_154 ?_
            exact KK
  | succ j ih =>
    intro k e5 e6 e7 hk hkK
    obtain ⟨⟨q1, q2, q3⟩, q4, q5, q6⟩ := hok k (by omega)
    show zW _ _ _ _ [some (.ref 50), some (zi s), some (zi i), some (zi c), some (zi (k : Int)), e5, e6, e7] _ _ _ _ _
    refine z_iload4 gi_154_58 ?_
    refine z_iload3 gi_154_60 ?_
    refine z_icmp_geF gi_154_61 (by omega) (by omega) (by omega) ?_
    refine z_iload2 gi_154_64 ?_
    refine z_i2l gi_154_65 (by omega) ?_
    refine z_pushJ gp_154_66 ?_
    refine z_iload4 gi_154_67 ?_
    refine z_imul (e := 3 * (k : Int)) gi_154_69 rfl ?_
    refine z_i2l gi_154_70 (by omega) ?_
    refine z_ladd (e := i + 3 * (k : Int)) gi_154_71 rfl ?_
    refine z_lstore (ls1 := [some (.ref 50), some (zi s), some (zi i), some (zi c), some (zi (k : Int)), some (zl (i + 3 * (k : Int))), none, e7]) gi_154_72 rfl ?_
    refine z_lload5 gi_154_74 ?_
    refine z_pushL (z := 0) gi_154_76 rfl ?_
    refine z_lcmp_lt gi_154_77 gi_154_78 (by omega) (by omega) (fun h1 => ?_) (fun h1 => ?_)
    · refine z_iload4 gi_154_107 ?_
      refine z_iret gi_154_109 gr_154 ?_
      exfalso
      omega
    · refine z_lload5 gi_154_81 ?_
      refine z_pushL (z := 2) gi_154_83 rfl ?_
      refine z_ladd (e := i + 3 * (k : Int) + 2) gi_154_86 rfl ?_
      refine z_aload0 gi_154_87 ?_
      refine z_getR (r := 84) gi_154_88 gk_50 (hR _ rm_50_59 (by decide)) ?_
      refine z_iload1 gi_154_91 ?_
      refine z_iald (v := z) gi_154_92 gk_84 (by decide) (by omega) ((mix_h (by decide)).trans ((plS_y (by decide) k).trans hz)) ?_
      refine z_i2l gi_154_93 (by omega) ?_
      refine z_lcmp_ge gi_154_94 gi_154_95 (by omega) (by omega) (fun h2 => ?_) (fun h2 => ?_)
      · refine z_iload4 gi_154_107 ?_
        refine z_iret gi_154_109 gr_154 ?_
        exfalso
        omega
      · refine z_aload0 gi_154_98 ?_
        refine z_getI (v := n + (k : Int)) gi_154_99 gk_50 ((mix_h (by decide)).trans (plS_50 hn5 k)) ?_
        refine z_pushJ gp_154_102 ?_
        refine z_icmp_neT gi_154_104 (by omega) zr_8 (by omega) ?_
        refine z_pushJ gp_154_110 ?_
        refine z_iload1 gi_154_112 ?_
        refine z_imul (e := 60 * s) gi_154_113 rfl ?_
        refine z_lload5 gi_154_114 ?_
        refine z_l2i gi_154_116 ?_
        refine z_iadd (e := 60 * s + (i + 3 * (k : Int))) gi_154_117 rfl ?_
        refine z_istore (ls1 := [some (.ref 50), some (zi s), some (zi i), some (zi c), some (zi (k : Int)), some (zl (i + 3 * (k : Int))), none, some (zi (60 * s + (i + 3 * (k : Int))))]) gi_154_118 rfl ?_
        refine z_aload0 gi_154_120 ?_
        refine z_getR (r := 85) gi_154_121 gk_50 (hR _ rm_50_60 (by decide)) ?_
        refine z_iload7 gi_154_124 ?_
        have q3 := hbr (i + 3 * (k : Int)) (by omega) (by omega)
        refine z_lald (v := b (i + 3 * (k : Int))) gi_154_126 gk_85 (by decide) (by omega) ((by rw [show 60 * s + (i + 3 * (k : Int)) = 60 * s + (i + 3 * (k : Int)) by omega]; exact hb _ (by omega) (by omega))) ?_
        refine z_l2i gi_154_127 ?_
        refine z_pushJ gp_154_128 ?_
        refine z_pushJ gp_154_129 ?_
        refine z_cS3 gi_154_131 (Nat.le_of_ble_eq_true rfl) gc_148_III ?_
        refine z_iload0 gi_148_0 ?_
        refine z_iload1 gi_148_1 ?_
        refine z_icmp_ltF gi_148_2 (by omega) zr_0 (by omega) ?_
        refine z_iload0 gi_148_5 ?_
        refine z_iload2 gi_148_6 ?_
        refine z_icmp_gtF gi_148_7 (by omega) zr_99 (by omega) ?_
        refine z_pushJ gp_148_10 ?_
        refine z_goto gi_148_11 ?_
        refine z_bret1 gi_148_15 gr_148 ?_
        show zW _ _ _ _ _ _ _ _ _ _
        refine z_if_eqF gi_154_134 zr_1 (by decide) ?_
        refine z_aload0 gi_154_137 ?_
        refine z_getR (r := 85) gi_154_138 gk_50 (hR _ rm_50_60 (by decide)) ?_
        refine z_iload7 gi_154_141 ?_
        refine z_pushJ gp_154_143 ?_
        refine z_iadd (e := 60 * s + (i + 3 * (k : Int)) + 1) gi_154_144 rfl ?_
        have q4 := hbr (i + 3 * (k : Int) + 1) (by omega) (by omega)
        refine z_lald (v := b (i + 3 * (k : Int) + 1)) gi_154_145 gk_85 (by decide) (by omega) ((by rw [show 60 * s + (i + 3 * (k : Int)) + 1 = 60 * s + (i + 3 * (k : Int) + 1) by omega]; exact hb _ (by omega) (by omega))) ?_
        refine z_l2i gi_154_146 ?_
        refine z_pushJ gp_154_147 ?_
        refine z_pushJ gp_154_148 ?_
        refine z_cS3 gi_154_150 (Nat.le_of_ble_eq_true rfl) gc_148_III ?_
        refine z_iload0 gi_148_0 ?_
        refine z_iload1 gi_148_1 ?_
        refine z_icmp_ltF gi_148_2 (by omega) zr_0 (by omega) ?_
        refine z_iload0 gi_148_5 ?_
        refine z_iload2 gi_148_6 ?_
        refine z_icmp_gtF gi_148_7 (by omega) zr_99 (by omega) ?_
        refine z_pushJ gp_148_10 ?_
        refine z_goto gi_148_11 ?_
        refine z_bret1 gi_148_15 gr_148 ?_
        show zW _ _ _ _ _ _ _ _ _ _
        refine z_if_eqF gi_154_153 zr_1 (by decide) ?_
        refine z_aload0 gi_154_156 ?_
        refine z_getR (r := 85) gi_154_157 gk_50 (hR _ rm_50_60 (by decide)) ?_
        refine z_iload7 gi_154_160 ?_
        refine z_pushJ gp_154_162 ?_
        refine z_iadd (e := 60 * s + (i + 3 * (k : Int)) + 2) gi_154_163 rfl ?_
        have q5 := hbr (i + 3 * (k : Int) + 2) (by omega) (by omega)
        refine z_lald (v := b (i + 3 * (k : Int) + 2)) gi_154_164 gk_85 (by decide) (by omega) ((by rw [show 60 * s + (i + 3 * (k : Int)) + 2 = 60 * s + (i + 3 * (k : Int) + 2) by omega]; exact hb _ (by omega) (by omega))) ?_
        refine z_l2i gi_154_165 ?_
        refine z_pushJ gp_154_166 ?_
        refine z_pushJ gp_154_167 ?_
        refine z_cS3 gi_154_169 (Nat.le_of_ble_eq_true rfl) gc_148_III ?_
        refine z_iload0 gi_148_0 ?_
        refine z_iload1 gi_148_1 ?_
        refine z_icmp_ltF gi_148_2 (by omega) zr_0 (by omega) ?_
        refine z_iload0 gi_148_5 ?_
        refine z_iload2 gi_148_6 ?_
        refine z_icmp_gtF gi_148_7 (by omega) zr_99 (by omega) ?_
        refine z_pushJ gp_148_10 ?_
        refine z_goto gi_148_11 ?_
        refine z_bret1 gi_148_15 gr_148 ?_
        show zW _ _ _ _ _ _ _ _ _ _
        refine z_if_neT gi_154_172 zr_1 (by decide) ?_
        refine z_aload0 gi_154_178 ?_
        refine z_aload0 gi_154_179 ?_
        refine z_getR (r := 85) gi_154_180 gk_50 (hR _ rm_50_60 (by decide)) ?_
        refine z_iload7 gi_154_183 ?_
        have q6 := hbr (i + 3 * (k : Int)) (by omega) (by omega)
        refine z_lald (v := b (i + 3 * (k : Int))) gi_154_185 gk_85 (by decide) (by omega) ((by rw [show 60 * s + (i + 3 * (k : Int)) = 60 * s + (i + 3 * (k : Int)) by omega]; exact hb _ (by omega) (by omega))) ?_
        refine z_l2i gi_154_186 ?_
        refine z_aload0 gi_154_187 ?_
        refine z_getR (r := 85) gi_154_188 gk_50 (hR _ rm_50_60 (by decide)) ?_
        refine z_iload7 gi_154_191 ?_
        refine z_pushJ gp_154_193 ?_
        refine z_iadd (e := 60 * s + (i + 3 * (k : Int)) + 1) gi_154_194 rfl ?_
        have q7 := hbr (i + 3 * (k : Int) + 1) (by omega) (by omega)
        refine z_lald (v := b (i + 3 * (k : Int) + 1)) gi_154_195 gk_85 (by decide) (by omega) ((by rw [show 60 * s + (i + 3 * (k : Int)) + 1 = 60 * s + (i + 3 * (k : Int) + 1) by omega]; exact hb _ (by omega) (by omega))) ?_
        refine z_l2i gi_154_196 ?_
        refine z_aload0 gi_154_197 ?_
        refine z_getR (r := 85) gi_154_198 gk_50 (hR _ rm_50_60 (by decide)) ?_
        refine z_iload7 gi_154_201 ?_
        refine z_pushJ gp_154_203 ?_
        refine z_iadd (e := 60 * s + (i + 3 * (k : Int)) + 2) gi_154_204 rfl ?_
        have q8 := hbr (i + 3 * (k : Int) + 2) (by omega) (by omega)
        refine z_lald (v := b (i + 3 * (k : Int) + 2)) gi_154_205 gk_85 (by decide) (by omega) ((by rw [show 60 * s + (i + 3 * (k : Int)) + 2 = 60 * s + (i + 3 * (k : Int) + 2) by omega]; exact hb _ (by omega) (by omega))) ?_
        refine z_l2i gi_154_206 ?_
        refine z_cV3 gi_154_207 gk_50 go_152 (Nat.le_of_ble_eq_true rfl) gc_152_RIII ?_
        refine z_aload0 gi_152_0 ?_
        refine z_getR (r := 51) gi_152_1 gk_50 (hR _ rm_50_2 (by decide)) ?_
        refine z_aload0 gi_152_4 ?_
        refine z_getI (v := n + (k : Int)) gi_152_5 gk_50 ((mix_h (by decide)).trans (plS_50 hn5 k)) ?_
        refine z_iload1 gi_152_8 ?_
        refine z_iast (e := b (i + 3 * (k : Int))) gi_152_9 gk_51 (by decide) (by omega) rfl ?_
        refine z_aload0 gi_152_10 ?_
        refine z_getR (r := 52) gi_152_11 gk_50 (hR _ rm_50_3 (by decide)) ?_
        refine z_aload0 gi_152_14 ?_
        refine z_getI (v := n + (k : Int)) gi_152_15 gk_50 ((zU_n (by decide)).trans ((mix_h (by decide)).trans (plS_50 hn5 k))) ?_
        refine z_iload2 gi_152_18 ?_
        refine z_iast (e := b (i + 3 * (k : Int) + 1)) gi_152_19 gk_52 (by decide) (by omega) rfl ?_
        refine z_aload0 gi_152_20 ?_
        refine z_getR (r := 53) gi_152_21 gk_50 (hR _ rm_50_4 (by decide)) ?_
        refine z_aload0 gi_152_24 ?_
        refine z_getI (v := n + (k : Int)) gi_152_25 gk_50 ((zU_n (by decide)).trans ((zU_n (by decide)).trans ((mix_h (by decide)).trans (plS_50 hn5 k)))) ?_
        refine z_iload3 gi_152_28 ?_
        refine z_iast (e := b (i + 3 * (k : Int) + 2)) gi_152_29 gk_53 (by decide) (by omega) rfl ?_
        refine z_aload0 gi_152_30 ?_
        refine z_getR (r := 54) gi_152_31 gk_50 (hR _ rm_50_5 (by decide)) ?_
        refine z_aload0 gi_152_34 ?_
        refine z_getI (v := n + (k : Int)) gi_152_35 gk_50 ((zU_n (by decide)).trans ((zU_n (by decide)).trans ((zU_n (by decide)).trans ((mix_h (by decide)).trans (plS_50 hn5 k))))) ?_
        refine z_pushJ gp_152_38 ?_
        refine z_iast (e := 5) gi_152_39 gk_54 (by decide) (by omega) rfl ?_
        refine z_aload0 gi_152_40 ?_
        refine z_getR (r := 55) gi_152_41 gk_50 (hR _ rm_50_6 (by decide)) ?_
        refine z_aload0 gi_152_44 ?_
        refine z_getI (v := n + (k : Int)) gi_152_45 gk_50 ((zU_n (by decide)).trans ((zU_n (by decide)).trans ((zU_n (by decide)).trans ((zU_n (by decide)).trans ((mix_h (by decide)).trans (plS_50 hn5 k)))))) ?_
        refine z_pushJ gp_152_48 ?_
        refine z_iast (e := 0) gi_152_49 gk_55 (by decide) (by omega) rfl ?_
        refine z_aload0 gi_152_50 ?_
        refine z_getR (r := 75) gi_152_51 gk_50 (hR _ rm_50_42 (by decide)) ?_
        refine z_aload0 gi_152_54 ?_
        refine z_getI (v := n + (k : Int)) gi_152_55 gk_50 ((zU_n (by decide)).trans ((zU_n (by decide)).trans ((zU_n (by decide)).trans ((zU_n (by decide)).trans ((zU_n (by decide)).trans ((mix_h (by decide)).trans (plS_50 hn5 k))))))) ?_
        refine z_pushJ gp_152_58 ?_
        refine z_iast (e := 0) gi_152_59 gk_75 (by decide) (by omega) rfl ?_
        refine z_aload0 gi_152_60 ?_
        refine z_getR (r := 76) gi_152_61 gk_50 (hR _ rm_50_43 (by decide)) ?_
        refine z_aload0 gi_152_64 ?_
        refine z_getI (v := n + (k : Int)) gi_152_65 gk_50 ((zU_n (by decide)).trans ((zU_n (by decide)).trans ((zU_n (by decide)).trans ((zU_n (by decide)).trans ((zU_n (by decide)).trans ((zU_n (by decide)).trans ((mix_h (by decide)).trans (plS_50 hn5 k)))))))) ?_
        refine z_pushJ gp_152_68 ?_
        refine z_iast (e := 0) gi_152_69 gk_76 (by decide) (by omega) rfl ?_
        refine z_aload0 gi_152_70 ?_
        refine z_dup gi_152_71 rfl ?_
        refine z_getI (v := n + (k : Int)) gi_152_72 gk_50 ((zU_n (by decide)).trans ((zU_n (by decide)).trans ((zU_n (by decide)).trans ((zU_n (by decide)).trans ((zU_n (by decide)).trans ((zU_n (by decide)).trans ((zU_n (by decide)).trans ((mix_h (by decide)).trans (plS_50 hn5 k))))))))) ?_
        refine z_pushJ gp_152_75 ?_
        refine z_iadd (e := n + (k : Int) + 1) gi_152_76 rfl ?_
        refine z_putI (y := 1) gi_152_77 rfl gk_50 ?_
        refine z_aload0 gi_152_80 ?_
        refine z_getI (v := n + (k : Int) + 1) gi_152_81 gk_50 (zU_e) ?_
        refine z_pushJ gp_152_84 ?_
        refine z_isub (e := n + (k : Int) + 1 - 1) gi_152_85 rfl ?_
        refine z_iret gi_152_86 gr_152 ?_
        show zW _ _ _ _ _ _ _ _ _ _
        refine z_pop gi_154_210 rfl ?_
        refine z_iinc (c := 1) (e := (k : Int) + 1) (ls1 := [some (.ref 50), some (zi s), some (zi i), some (zi c), some (zi ((k : Int) + 1)), some (zl (i + 3 * (k : Int))), none, some (zi (60 * s + (i + 3 * (k : Int))))]) gi_154_211 rfl rfl rfl rfl ?_
        refine z_goto gi_154_214 ?_
        show zW _ _ _ _ [some (.ref 50), some (zi s), some (zi i), some (zi c), some (zi ((k : Int) + 1)), some (zl (i + 3 * (k : Int))), none, some (zi (60 * s + (i + 3 * (k : Int))))] [] _ _ _ _
        have hg := ih (k + 1) (some (zl (i + 3 * (k : Int)))) none (some (zi (60 * s + (i + 3 * (k : Int))))) (by omega) (by omega)
        rw [show plS n b i J (k + 1) = plA (n + k) (plS n b i J k) (b (i + 3 * k)) (b (i + 3 * k + 1)) (b (i + 3 * k + 2)) from rfl, plA_h] at hg
        exact hg
theorem st_places_n {X : Nat × (Nat → Int32)} {d : Nat} {J M : zA} {R : zR} {s i c : Int} (hr : Rel X J M R) (hs : -2147483648 ≤ s ∧ s < 2147483648) (hi : -2147483648 ≤ i ∧ i < 2147483648) (hc : -2147483648 ≤ c ∧ c < 2147483648) (hs6 : ¬ (0 ≤ s ∧ s < 6)) : zW X (d + 20) 102 0 (gEn 102 [(.ref 0), (zi s), (zi i), (zi c)]) [] J M R (stP X (d + 20) 154 [(zi s), (zi i), (zi c)]) := by
  have hr0 := hr
  obtain ⟨hR, hG, hY, hD, hP, hC, hAc, hS, hTp, hX, hW⟩ := hr0
  have hRr : zRoR R := zRoR_of hR
  show zW _ _ _ _ [some (.ref 0), some (zi s), some (zi i), some (zi c), none, none] _ _ _ _ _
  refine z_iload1 gi_102_0 ?_
  refine z_cS1 gi_102_1 (Nat.le_of_ble_eq_true rfl) gc_143_I ?_
  refine z_iload0 gi_143_0 ?_
  refine z_if_lt gi_143_1 (by omega) (fun h1 => ?_) (fun h1 => ?_)
  · refine z_pushJ gp_143_14 ?_
    refine z_bret0 gi_143_15 gr_143 ?_
    show zW _ _ _ _ _ _ _ _ _ _
    refine z_if_eqT gi_102_4 zr_0 (by decide) ?_
    refine z_pushJ gp_102_18 ?_
    refine z_iret gi_102_19 gr_102 ?_
    refine ⟨_, rfl, ?_⟩
    show zW _ _ _ _ [some (.ref 50), some (zi s), some (zi i), some (zi c), none, none, none, none] _ _ _ _ _
    refine z_iload1 gi_154_0 ?_
    refine z_cS1 gi_154_1 (Nat.le_of_ble_eq_true rfl) gc_248_I ?_
    refine z_iload0 gi_248_0 ?_
    refine z_pushJ gp_248_1 ?_
    refine z_pushJ gp_248_2 ?_
    refine z_cS3 gi_248_3 (Nat.le_of_ble_eq_true rfl) gc_148_III ?_
    refine z_iload0 gi_148_0 ?_
    refine z_iload1 gi_148_1 ?_
    refine z_icmp_ltT gi_148_2 (by omega) zr_0 (by omega) ?_
    refine z_pushJ gp_148_14 ?_
    refine z_bret0 gi_148_15 gr_148 ?_
    show zW _ _ _ _ _ _ _ _ _ _
    refine z_bret0 gi_248_6 gr_248 ?_
    show zW _ _ _ _ _ _ _ _ _ _
    refine z_if_eqT gi_154_4 zr_0 (by decide) ?_
    refine z_pushJ gp_154_17 ?_
    refine z_iret gi_154_18 gr_154 ?_
    refine ⟨?_, ?_⟩
    · first | rfl | exact congrArg (fun v => some (zi v)) (by omega) | (exfalso; omega)
    · exact hr
  · refine z_iload0 gi_143_4 ?_
    refine z_pushJ gp_143_5 ?_
    refine z_icmp_geT gi_143_7 (by omega) zr_6 (by omega) ?_
    refine z_pushJ gp_143_14 ?_
    refine z_bret0 gi_143_15 gr_143 ?_
    show zW _ _ _ _ _ _ _ _ _ _
    refine z_if_eqT gi_102_4 zr_0 (by decide) ?_
    refine z_pushJ gp_102_18 ?_
    refine z_iret gi_102_19 gr_102 ?_
    refine ⟨_, rfl, ?_⟩
    show zW _ _ _ _ [some (.ref 50), some (zi s), some (zi i), some (zi c), none, none, none, none] _ _ _ _ _
    refine z_iload1 gi_154_0 ?_
    refine z_cS1 gi_154_1 (Nat.le_of_ble_eq_true rfl) gc_248_I ?_
    refine z_iload0 gi_248_0 ?_
    refine z_pushJ gp_248_1 ?_
    refine z_pushJ gp_248_2 ?_
    refine z_cS3 gi_248_3 (Nat.le_of_ble_eq_true rfl) gc_148_III ?_
    refine z_iload0 gi_148_0 ?_
    refine z_iload1 gi_148_1 ?_
    refine z_icmp_ltF gi_148_2 (by omega) zr_0 (by omega) ?_
    refine z_iload0 gi_148_5 ?_
    refine z_iload2 gi_148_6 ?_
    refine z_icmp_gtT gi_148_7 (by omega) zr_5 (by omega) ?_
    refine z_pushJ gp_148_14 ?_
    refine z_bret0 gi_148_15 gr_148 ?_
    show zW _ _ _ _ _ _ _ _ _ _
    refine z_bret0 gi_248_6 gr_248 ?_
    show zW _ _ _ _ _ _ _ _ _ _
    refine z_if_eqT gi_154_4 zr_0 (by decide) ?_
    refine z_pushJ gp_154_17 ?_
    refine z_iret gi_154_18 gr_154 ?_
    refine ⟨?_, ?_⟩
    · first | rfl | exact congrArg (fun v => some (zi v)) (by omega) | (exfalso; omega)
    · exact hr
theorem st_places_0 {X : Nat × (Nat → Int32)} {d : Nat} {J M : zA} {R : zR} {s i c : Int} (hr : Rel X J M R) (hs : -2147483648 ≤ s ∧ s < 2147483648) (hi : -2147483648 ≤ i ∧ i < 2147483648) (hc : -2147483648 ≤ c ∧ c < 2147483648) (hs6 : 0 ≤ s ∧ s < 6) (hh : J (38 + 2 * s.toNat) 0 = 0) : zW X (d + 20) 102 0 (gEn 102 [(.ref 0), (zi s), (zi i), (zi c)]) [] J M R (stP X (d + 20) 154 [(zi s), (zi i), (zi c)]) := by
  have hr0 := hr
  obtain ⟨hR, hG, hY, hD, hP, hC, hAc, hS, hTp, hX, hW⟩ := hr0
  have hRr : zRoR R := zRoR_of hR
  have hA0 := hAc
  obtain ⟨a1, a2, a3, a4, a5, a6⟩ := hA0
  have e83 : J 83 s = -1 := (hS s hs6.1 hs6.2).1.symm.trans (cH_0 hh)
  have s3 : 0 ≤ J (38 + 2 * s.toNat) 2 ∧ J (38 + 2 * s.toNat) 2 ≤ 4 := (hS s hs6.1 hs6.2).2.2.1
  have s4 : 0 ≤ J (38 + 2 * s.toNat) 3 ∧ J (38 + 2 * s.toNat) 3 ≤ 60 := (hS s hs6.1 hs6.2).2.2.2.1
  show zW _ _ _ _ [some (.ref 0), some (zi s), some (zi i), some (zi c), none, none] _ _ _ _ _
  refine z_iload1 gi_102_0 ?_
  refine z_cS1 gi_102_1 (Nat.le_of_ble_eq_true rfl) gc_143_I ?_
  refine z_iload0 gi_143_0 ?_
  refine z_if_ltF gi_143_1 (by omega) (by omega) ?_
  refine z_iload0 gi_143_4 ?_
  refine z_pushJ gp_143_5 ?_
  refine z_icmp_geF gi_143_7 (by omega) zr_6 (by omega) ?_
  refine z_pushJ gp_143_10 ?_
  refine z_goto gi_143_11 ?_
  refine z_bret1 gi_143_15 gr_143 ?_
  show zW _ _ _ _ _ _ _ _ _ _
  refine z_if_eqF gi_102_4 zr_1 (by decide) ?_
  refine z_iload3 gi_102_7 ?_
  refine z_pushJ gp_102_8 ?_
  refine z_icmp_lt gi_102_9 (by omega) zr_1 (fun h1 => ?_) (fun h1 => ?_)
  · refine z_pushJ gp_102_18 ?_
    refine z_iret gi_102_19 gr_102 ?_
    refine ⟨_, rfl, ?_⟩
    show zW _ _ _ _ [some (.ref 50), some (zi s), some (zi i), some (zi c), none, none, none, none] _ _ _ _ _
    refine z_iload1 gi_154_0 ?_
    refine z_cS1 gi_154_1 (Nat.le_of_ble_eq_true rfl) gc_248_I ?_
    refine z_iload0 gi_248_0 ?_
    refine z_pushJ gp_248_1 ?_
    refine z_pushJ gp_248_2 ?_
    refine z_cS3 gi_248_3 (Nat.le_of_ble_eq_true rfl) gc_148_III ?_
    refine z_iload0 gi_148_0 ?_
    refine z_iload1 gi_148_1 ?_
    refine z_icmp_ltF gi_148_2 (by omega) zr_0 (by omega) ?_
    refine z_iload0 gi_148_5 ?_
    refine z_iload2 gi_148_6 ?_
    refine z_icmp_gtF gi_148_7 (by omega) zr_5 (by omega) ?_
    refine z_pushJ gp_148_10 ?_
    refine z_goto gi_148_11 ?_
    refine z_bret1 gi_148_15 gr_148 ?_
    show zW _ _ _ _ _ _ _ _ _ _
    refine z_bret1 gi_248_6 gr_248 ?_
    show zW _ _ _ _ _ _ _ _ _ _
    refine z_if_eqF gi_154_4 zr_1 (by decide) ?_
    refine z_iload3 gi_154_7 ?_
    refine z_pushJ gp_154_8 ?_
    refine z_pushJ gp_154_9 ?_
    refine z_cS3 gi_154_11 (Nat.le_of_ble_eq_true rfl) gc_148_III ?_
    refine z_iload0 gi_148_0 ?_
    refine z_iload1 gi_148_1 ?_
    refine z_icmp_ltT gi_148_2 (by omega) zr_1 (by omega) ?_
    refine z_pushJ gp_148_14 ?_
    refine z_bret0 gi_148_15 gr_148 ?_
    show zW _ _ _ _ _ _ _ _ _ _
    refine z_if_neF gi_154_14 zr_0 (by decide) ?_
    refine z_pushJ gp_154_17 ?_
    refine z_iret gi_154_18 gr_154 ?_
    refine ⟨?_, ?_⟩
    · first | rfl | exact congrArg (fun v => some (zi v)) (by omega) | (exfalso; omega)
    · exact hr
  · refine z_iload3 gi_102_12 ?_
    refine z_pushJ gp_102_13 ?_
    refine z_icmp_le gi_102_15 (by omega) zr_8 (fun h2 => ?_) (fun h2 => ?_)
    · refine z_aload0 gi_102_20 ?_
      refine z_getR (r := 37) gi_102_21 gk_0 (hR _ rm_0_11) ?_
      refine z_iload1 gi_102_24 ?_
      refine z_aald (r := 38 + 2 * s.toNat) gi_102_25 rfl (by decide) (by omega) (rr_shelf hR (by omega)) ?_
      refine z_astore (ls1 := [some (.ref 0), some (zi s), some (zi i), some (zi c), some (.ref (38 + 2 * s.toNat)), none]) gi_102_26 rfl ?_
      refine z_aload4 gi_102_28 ?_
      refine z_callVi (As := []) (le := [some _]) gi_102_30 rfl (zk_shelf (by omega)) (Nat.le_of_ble_eq_true rfl) (Nat.le_of_ble_eq_true rfl) rfl ?_
      refine z_aload0 gi_62_0 ?_
      refine z_getI (v := 0) gi_62_1 (zk_shelf (by omega)) (hh) ?_
      refine z_if_neF gi_62_4 zr_0 (by decide) ?_
      refine z_pushJ gp_62_7 ?_
      refine z_goto gi_62_8 ?_
      refine z_bret1 gi_62_12 gr_62 ?_
      show zW _ _ _ _ _ _ _ _ _ _
      refine z_if_eqF gi_102_33 zr_1 (by decide) ?_
      refine z_pushJ gp_102_36 ?_
      refine z_iret rfl gr_102 ?_
      refine ⟨_, rfl, ?_⟩
      show zW _ _ _ _ [some (.ref 50), some (zi s), some (zi i), some (zi c), none, none, none, none] _ _ _ _ _
      refine z_iload1 gi_154_0 ?_
      refine z_cS1 gi_154_1 (Nat.le_of_ble_eq_true rfl) gc_248_I ?_
      refine z_iload0 gi_248_0 ?_
      refine z_pushJ gp_248_1 ?_
      refine z_pushJ gp_248_2 ?_
      refine z_cS3 gi_248_3 (Nat.le_of_ble_eq_true rfl) gc_148_III ?_
      refine z_iload0 gi_148_0 ?_
      refine z_iload1 gi_148_1 ?_
      refine z_icmp_ltF gi_148_2 (by omega) zr_0 (by omega) ?_
      refine z_iload0 gi_148_5 ?_
      refine z_iload2 gi_148_6 ?_
      refine z_icmp_gtF gi_148_7 (by omega) zr_5 (by omega) ?_
      refine z_pushJ gp_148_10 ?_
      refine z_goto gi_148_11 ?_
      refine z_bret1 gi_148_15 gr_148 ?_
      show zW _ _ _ _ _ _ _ _ _ _
      refine z_bret1 gi_248_6 gr_248 ?_
      show zW _ _ _ _ _ _ _ _ _ _
      refine z_if_eqF gi_154_4 zr_1 (by decide) ?_
      refine z_iload3 gi_154_7 ?_
      refine z_pushJ gp_154_8 ?_
      refine z_pushJ gp_154_9 ?_
      refine z_cS3 gi_154_11 (Nat.le_of_ble_eq_true rfl) gc_148_III ?_
      refine z_iload0 gi_148_0 ?_
      refine z_iload1 gi_148_1 ?_
      refine z_icmp_ltF gi_148_2 (by omega) zr_1 (by omega) ?_
      refine z_iload0 gi_148_5 ?_
      refine z_iload2 gi_148_6 ?_
      refine z_icmp_gtF gi_148_7 (by omega) zr_8 (by omega) ?_
      refine z_pushJ gp_148_10 ?_
      refine z_goto gi_148_11 ?_
      refine z_bret1 gi_148_15 gr_148 ?_
      show zW _ _ _ _ _ _ _ _ _ _
      refine z_if_neT gi_154_14 zr_1 (by decide) ?_
      refine z_aload0 gi_154_19 ?_
      refine z_getR (r := 83) gi_154_20 gk_50 (hRr _ rm_50_58 (by decide)) ?_
      refine z_iload1 gi_154_23 ?_
      refine z_iald (v := (-1)) gi_154_24 gk_83 (by decide) (by omega) (e83) ?_
      refine z_pushJ gp_154_25 ?_
      refine z_icmp_eqT gi_154_26 zrn_1 zrn_1 (by decide) ?_
      refine z_aload0 gi_154_43 ?_
      refine z_getR (r := 83) gi_154_44 gk_50 (hRr _ rm_50_58 (by decide)) ?_
      refine z_iload1 gi_154_47 ?_
      refine z_iald (v := (-1)) gi_154_48 gk_83 (by decide) (by omega) (e83) ?_
      refine z_pushJ gp_154_49 ?_
      refine z_icmp_neF gi_154_50 zrn_1 zrn_1 (by decide) ?_
      refine z_pushJ gp_154_53 ?_
      refine z_iret gi_154_54 gr_154 ?_
      refine ⟨?_, ?_⟩
      · first | rfl | exact congrArg (fun v => some (zi v)) (by omega) | (exfalso; omega)
      · exact hr
    · refine z_pushJ gp_102_18 ?_
      refine z_iret gi_102_19 gr_102 ?_
      refine ⟨_, rfl, ?_⟩
      show zW _ _ _ _ [some (.ref 50), some (zi s), some (zi i), some (zi c), none, none, none, none] _ _ _ _ _
      refine z_iload1 gi_154_0 ?_
      refine z_cS1 gi_154_1 (Nat.le_of_ble_eq_true rfl) gc_248_I ?_
      refine z_iload0 gi_248_0 ?_
      refine z_pushJ gp_248_1 ?_
      refine z_pushJ gp_248_2 ?_
      refine z_cS3 gi_248_3 (Nat.le_of_ble_eq_true rfl) gc_148_III ?_
      refine z_iload0 gi_148_0 ?_
      refine z_iload1 gi_148_1 ?_
      refine z_icmp_ltF gi_148_2 (by omega) zr_0 (by omega) ?_
      refine z_iload0 gi_148_5 ?_
      refine z_iload2 gi_148_6 ?_
      refine z_icmp_gtF gi_148_7 (by omega) zr_5 (by omega) ?_
      refine z_pushJ gp_148_10 ?_
      refine z_goto gi_148_11 ?_
      refine z_bret1 gi_148_15 gr_148 ?_
      show zW _ _ _ _ _ _ _ _ _ _
      refine z_bret1 gi_248_6 gr_248 ?_
      show zW _ _ _ _ _ _ _ _ _ _
      refine z_if_eqF gi_154_4 zr_1 (by decide) ?_
      refine z_iload3 gi_154_7 ?_
      refine z_pushJ gp_154_8 ?_
      refine z_pushJ gp_154_9 ?_
      refine z_cS3 gi_154_11 (Nat.le_of_ble_eq_true rfl) gc_148_III ?_
      refine z_iload0 gi_148_0 ?_
      refine z_iload1 gi_148_1 ?_
      refine z_icmp_ltF gi_148_2 (by omega) zr_1 (by omega) ?_
      refine z_iload0 gi_148_5 ?_
      refine z_iload2 gi_148_6 ?_
      refine z_icmp_gtT gi_148_7 (by omega) zr_8 (by omega) ?_
      refine z_pushJ gp_148_14 ?_
      refine z_bret0 gi_148_15 gr_148 ?_
      show zW _ _ _ _ _ _ _ _ _ _
      refine z_if_neF gi_154_14 zr_0 (by decide) ?_
      refine z_pushJ gp_154_17 ?_
      refine z_iret gi_154_18 gr_154 ?_
      refine ⟨?_, ?_⟩
      · first | rfl | exact congrArg (fun v => some (zi v)) (by omega) | (exfalso; omega)
      · exact hr
theorem st_places_1 {X : Nat × (Nat → Int32)} {d : Nat} {J M : zA} {R : zR} {s i c : Int} (hr : Rel X J M R) (hs : -2147483648 ≤ s ∧ s < 2147483648) (hi : -2147483648 ≤ i ∧ i < 2147483648) (hc : -2147483648 ≤ c ∧ c < 2147483648) (hs6 : 0 ≤ s ∧ s < 6) (hh : J (38 + 2 * s.toNat) 0 = 1) : zW X (d + 20) 102 0 (gEn 102 [(.ref 0), (zi s), (zi i), (zi c)]) [] J M R (stP X (d + 20) 154 [(zi s), (zi i), (zi c)]) := by
  have hr0 := hr
  obtain ⟨hR, hG, hY, hD, hP, hC, hAc, hS, hTp, hX, hW⟩ := hr0
  have hRr : zRoR R := zRoR_of hR
  have hA0 := hAc
  obtain ⟨a1, a2, a3, a4, a5, a6⟩ := hA0
  have e83 : J 83 s = J (38 + 2 * s.toNat) 1 := (hS s hs6.1 hs6.2).1.symm.trans (cH_1 hh)
  have s3 : 0 ≤ J (38 + 2 * s.toNat) 2 ∧ J (38 + 2 * s.toNat) 2 ≤ 4 := (hS s hs6.1 hs6.2).2.2.1
  have s4 : 0 ≤ J (38 + 2 * s.toNat) 3 ∧ J (38 + 2 * s.toNat) 3 ≤ 60 := (hS s hs6.1 hs6.2).2.2.2.1
  have s5 : 0 ≤ J (38 + 2 * s.toNat) 1 ∧ J (38 + 2 * s.toNat) 1 < J 34 1 := (hS s hs6.1 hs6.2).2.2.2.2.1 hh
  show zW _ _ _ _ [some (.ref 0), some (zi s), some (zi i), some (zi c), none, none] _ _ _ _ _
  refine z_iload1 gi_102_0 ?_
  refine z_cS1 gi_102_1 (Nat.le_of_ble_eq_true rfl) gc_143_I ?_
  refine z_iload0 gi_143_0 ?_
  refine z_if_ltF gi_143_1 (by omega) (by omega) ?_
  refine z_iload0 gi_143_4 ?_
  refine z_pushJ gp_143_5 ?_
  refine z_icmp_geF gi_143_7 (by omega) zr_6 (by omega) ?_
  refine z_pushJ gp_143_10 ?_
  refine z_goto gi_143_11 ?_
  refine z_bret1 gi_143_15 gr_143 ?_
  show zW _ _ _ _ _ _ _ _ _ _
  refine z_if_eqF gi_102_4 zr_1 (by decide) ?_
  refine z_iload3 gi_102_7 ?_
  refine z_pushJ gp_102_8 ?_
  refine z_icmp_lt gi_102_9 (by omega) zr_1 (fun h1 => ?_) (fun h1 => ?_)
  · refine z_pushJ gp_102_18 ?_
    refine z_iret gi_102_19 gr_102 ?_
    refine ⟨_, rfl, ?_⟩
    show zW _ _ _ _ [some (.ref 50), some (zi s), some (zi i), some (zi c), none, none, none, none] _ _ _ _ _
    refine z_iload1 gi_154_0 ?_
    refine z_cS1 gi_154_1 (Nat.le_of_ble_eq_true rfl) gc_248_I ?_
    refine z_iload0 gi_248_0 ?_
    refine z_pushJ gp_248_1 ?_
    refine z_pushJ gp_248_2 ?_
    refine z_cS3 gi_248_3 (Nat.le_of_ble_eq_true rfl) gc_148_III ?_
    refine z_iload0 gi_148_0 ?_
    refine z_iload1 gi_148_1 ?_
    refine z_icmp_ltF gi_148_2 (by omega) zr_0 (by omega) ?_
    refine z_iload0 gi_148_5 ?_
    refine z_iload2 gi_148_6 ?_
    refine z_icmp_gtF gi_148_7 (by omega) zr_5 (by omega) ?_
    refine z_pushJ gp_148_10 ?_
    refine z_goto gi_148_11 ?_
    refine z_bret1 gi_148_15 gr_148 ?_
    show zW _ _ _ _ _ _ _ _ _ _
    refine z_bret1 gi_248_6 gr_248 ?_
    show zW _ _ _ _ _ _ _ _ _ _
    refine z_if_eqF gi_154_4 zr_1 (by decide) ?_
    refine z_iload3 gi_154_7 ?_
    refine z_pushJ gp_154_8 ?_
    refine z_pushJ gp_154_9 ?_
    refine z_cS3 gi_154_11 (Nat.le_of_ble_eq_true rfl) gc_148_III ?_
    refine z_iload0 gi_148_0 ?_
    refine z_iload1 gi_148_1 ?_
    refine z_icmp_ltT gi_148_2 (by omega) zr_1 (by omega) ?_
    refine z_pushJ gp_148_14 ?_
    refine z_bret0 gi_148_15 gr_148 ?_
    show zW _ _ _ _ _ _ _ _ _ _
    refine z_if_neF gi_154_14 zr_0 (by decide) ?_
    refine z_pushJ gp_154_17 ?_
    refine z_iret gi_154_18 gr_154 ?_
    refine ⟨?_, ?_⟩
    · first | rfl | exact congrArg (fun v => some (zi v)) (by omega) | (exfalso; omega)
    · exact hr
  · refine z_iload3 gi_102_12 ?_
    refine z_pushJ gp_102_13 ?_
    refine z_icmp_le gi_102_15 (by omega) zr_8 (fun h2 => ?_) (fun h2 => ?_)
    · refine z_aload0 gi_102_20 ?_
      refine z_getR (r := 37) gi_102_21 gk_0 (hR _ rm_0_11) ?_
      refine z_iload1 gi_102_24 ?_
      refine z_aald (r := 38 + 2 * s.toNat) gi_102_25 rfl (by decide) (by omega) (rr_shelf hR (by omega)) ?_
      refine z_astore (ls1 := [some (.ref 0), some (zi s), some (zi i), some (zi c), some (.ref (38 + 2 * s.toNat)), none]) gi_102_26 rfl ?_
      refine z_aload4 gi_102_28 ?_
      refine z_callVi (As := []) (le := [some _]) gi_102_30 rfl (zk_shelf (by omega)) (Nat.le_of_ble_eq_true rfl) (Nat.le_of_ble_eq_true rfl) rfl ?_
      refine z_aload0 gi_62_0 ?_
      refine z_getI (v := 1) gi_62_1 (zk_shelf (by omega)) (hh) ?_
      refine z_if_neT gi_62_4 zr_1 (by decide) ?_
      refine z_pushJ gp_62_11 ?_
      refine z_bret0 gi_62_12 gr_62 ?_
      show zW _ _ _ _ _ _ _ _ _ _
      refine z_if_eqT gi_102_33 zr_0 (by decide) ?_
      refine z_aload4 gi_102_38 ?_
      refine z_callVi (As := []) (le := [some _]) gi_102_40 rfl (zk_shelf (by omega)) (Nat.le_of_ble_eq_true rfl) (Nat.le_of_ble_eq_true rfl) rfl ?_
      refine z_aload0 gi_64_0 ?_
      refine z_getI (v := 1) gi_64_1 (zk_shelf (by omega)) (hh) ?_
      refine z_pushJ gp_64_4 ?_
      refine z_icmp_neT gi_64_5 zr_1 zr_2 (by decide) ?_
      refine z_pushJ gp_64_19 ?_
      refine z_bret0 gi_64_20 gr_64 ?_
      show zW _ _ _ _ _ _ _ _ _ _
      refine z_if_neF gi_102_43 zr_0 (by decide) ?_
      refine z_pushJ gp_102_46 ?_
      refine z_iret gi_102_48 gr_102 ?_
      refine ⟨_, rfl, ?_⟩
      show zW _ _ _ _ [some (.ref 50), some (zi s), some (zi i), some (zi c), none, none, none, none] _ _ _ _ _
      refine z_iload1 gi_154_0 ?_
      refine z_cS1 gi_154_1 (Nat.le_of_ble_eq_true rfl) gc_248_I ?_
      refine z_iload0 gi_248_0 ?_
      refine z_pushJ gp_248_1 ?_
      refine z_pushJ gp_248_2 ?_
      refine z_cS3 gi_248_3 (Nat.le_of_ble_eq_true rfl) gc_148_III ?_
      refine z_iload0 gi_148_0 ?_
      refine z_iload1 gi_148_1 ?_
      refine z_icmp_ltF gi_148_2 (by omega) zr_0 (by omega) ?_
      refine z_iload0 gi_148_5 ?_
      refine z_iload2 gi_148_6 ?_
      refine z_icmp_gtF gi_148_7 (by omega) zr_5 (by omega) ?_
      refine z_pushJ gp_148_10 ?_
      refine z_goto gi_148_11 ?_
      refine z_bret1 gi_148_15 gr_148 ?_
      show zW _ _ _ _ _ _ _ _ _ _
      refine z_bret1 gi_248_6 gr_248 ?_
      show zW _ _ _ _ _ _ _ _ _ _
      refine z_if_eqF gi_154_4 zr_1 (by decide) ?_
      refine z_iload3 gi_154_7 ?_
      refine z_pushJ gp_154_8 ?_
      refine z_pushJ gp_154_9 ?_
      refine z_cS3 gi_154_11 (Nat.le_of_ble_eq_true rfl) gc_148_III ?_
      refine z_iload0 gi_148_0 ?_
      refine z_iload1 gi_148_1 ?_
      refine z_icmp_ltF gi_148_2 (by omega) zr_1 (by omega) ?_
      refine z_iload0 gi_148_5 ?_
      refine z_iload2 gi_148_6 ?_
      refine z_icmp_gtF gi_148_7 (by omega) zr_8 (by omega) ?_
      refine z_pushJ gp_148_10 ?_
      refine z_goto gi_148_11 ?_
      refine z_bret1 gi_148_15 gr_148 ?_
      show zW _ _ _ _ _ _ _ _ _ _
      refine z_if_neT gi_154_14 zr_1 (by decide) ?_
      refine z_aload0 gi_154_19 ?_
      refine z_getR (r := 83) gi_154_20 gk_50 (hRr _ rm_50_58 (by decide)) ?_
      refine z_iload1 gi_154_23 ?_
      refine z_iald (v := J (38 + 2 * s.toNat) 1) gi_154_24 gk_83 (by decide) (by omega) (e83) ?_
      refine z_pushJ gp_154_25 ?_
      refine z_icmp_eq gi_154_26 (by omega) zrn_1 (fun h3 => ?_) (fun h3 => ?_)
      · refine z_aload0 gi_154_43 ?_
        refine z_getR (r := 83) gi_154_44 gk_50 (hRr _ rm_50_58 (by decide)) ?_
        refine z_iload1 gi_154_47 ?_
        refine z_iald (v := J (38 + 2 * s.toNat) 1) gi_154_48 gk_83 (by decide) (by omega) (e83) ?_
        refine z_pushJ gp_154_49 ?_
        refine z_icmp_neF gi_154_50 (by omega) zrn_1 (by omega) ?_
        refine z_pushJ gp_154_53 ?_
        refine z_iret gi_154_54 gr_154 ?_
        refine ⟨?_, ?_⟩
        · first | rfl | exact congrArg (fun v => some (zi v)) (by omega) | (exfalso; omega)
        · exact hr
      · refine z_aload0 gi_154_29 ?_
        refine z_getR (r := 83) gi_154_30 gk_50 (hRr _ rm_50_58 (by decide)) ?_
        refine z_iload1 gi_154_33 ?_
        refine z_iald (v := J (38 + 2 * s.toNat) 1) gi_154_34 gk_83 (by decide) (by omega) (e83) ?_
        refine z_pushJ gp_154_35 ?_
        refine z_icmp_eq gi_154_37 (by omega) zrn_2 (fun h4 => ?_) (fun h4 => ?_)
        · refine z_aload0 gi_154_43 ?_
          refine z_getR (r := 83) gi_154_44 gk_50 (hRr _ rm_50_58 (by decide)) ?_
          refine z_iload1 gi_154_47 ?_
          refine z_iald (v := J (38 + 2 * s.toNat) 1) gi_154_48 gk_83 (by decide) (by omega) (e83) ?_
          refine z_pushJ gp_154_49 ?_
          refine z_icmp_neT gi_154_50 (by omega) zrn_1 (by omega) ?_
          refine z_pushJ gp_154_55 ?_
          refine z_istore (ls1 := [some (.ref 50), some (zi s), some (zi i), some (zi c), some (zi 0), none, none, none]) gi_154_56 rfl ?_
          show zW _ _ _ _ [some (.ref 50), some (zi s), some (zi i), some (zi c), some (zi 0), none, none, none] [] _ _ _ _
          exfalso
          omega
        · refine z_pushJ gp_154_40 ?_
          refine z_iret gi_154_42 gr_154 ?_
          refine ⟨?_, ?_⟩
          · first | rfl | exact congrArg (fun v => some (zi v)) (by omega) | (exfalso; omega)
          · exact hr
    · refine z_pushJ gp_102_18 ?_
      refine z_iret gi_102_19 gr_102 ?_
      refine ⟨_, rfl, ?_⟩
      show zW _ _ _ _ [some (.ref 50), some (zi s), some (zi i), some (zi c), none, none, none, none] _ _ _ _ _
      refine z_iload1 gi_154_0 ?_
      refine z_cS1 gi_154_1 (Nat.le_of_ble_eq_true rfl) gc_248_I ?_
      refine z_iload0 gi_248_0 ?_
      refine z_pushJ gp_248_1 ?_
      refine z_pushJ gp_248_2 ?_
      refine z_cS3 gi_248_3 (Nat.le_of_ble_eq_true rfl) gc_148_III ?_
      refine z_iload0 gi_148_0 ?_
      refine z_iload1 gi_148_1 ?_
      refine z_icmp_ltF gi_148_2 (by omega) zr_0 (by omega) ?_
      refine z_iload0 gi_148_5 ?_
      refine z_iload2 gi_148_6 ?_
      refine z_icmp_gtF gi_148_7 (by omega) zr_5 (by omega) ?_
      refine z_pushJ gp_148_10 ?_
      refine z_goto gi_148_11 ?_
      refine z_bret1 gi_148_15 gr_148 ?_
      show zW _ _ _ _ _ _ _ _ _ _
      refine z_bret1 gi_248_6 gr_248 ?_
      show zW _ _ _ _ _ _ _ _ _ _
      refine z_if_eqF gi_154_4 zr_1 (by decide) ?_
      refine z_iload3 gi_154_7 ?_
      refine z_pushJ gp_154_8 ?_
      refine z_pushJ gp_154_9 ?_
      refine z_cS3 gi_154_11 (Nat.le_of_ble_eq_true rfl) gc_148_III ?_
      refine z_iload0 gi_148_0 ?_
      refine z_iload1 gi_148_1 ?_
      refine z_icmp_ltF gi_148_2 (by omega) zr_1 (by omega) ?_
      refine z_iload0 gi_148_5 ?_
      refine z_iload2 gi_148_6 ?_
      refine z_icmp_gtT gi_148_7 (by omega) zr_8 (by omega) ?_
      refine z_pushJ gp_148_14 ?_
      refine z_bret0 gi_148_15 gr_148 ?_
      show zW _ _ _ _ _ _ _ _ _ _
      refine z_if_neF gi_154_14 zr_0 (by decide) ?_
      refine z_pushJ gp_154_17 ?_
      refine z_iret gi_154_18 gr_154 ?_
      refine ⟨?_, ?_⟩
      · first | rfl | exact congrArg (fun v => some (zi v)) (by omega) | (exfalso; omega)
      · exact hr
theorem placesC_01 {X : Nat × (Nat → Int32)} {d : Nat} {J M : zA} {R : zR} {P : zP} {s i c n z : Int} {b : Int → Int} (hR : zRok R) (hs : 0 ≤ s ∧ s < 6) (hi : -2147483648 ≤ i ∧ i < 2147483648) (hc : 1 ≤ c ∧ c ≤ 8) (hn : 0 ≤ n ∧ n ≤ 8) (hzr : 0 ≤ z ∧ z ≤ 60) (hbr : ∀ y, 0 ≤ y → y < z → -128 ≤ b y ∧ b y ≤ 127) (hn8 : J 8 2 = n) (hz : J (38 + 2 * s.toNat) 3 = z) (hb : ∀ y, 0 ≤ y → y < z → M (39 + 2 * s.toNat) y = b y) (KK : ∀ K : Nat, (∀ t, t < K → pOk n b i z t) → (K : Int) ≤ c → ((K : Int) = c ∨ ¬ pOk n b i z K) → P (some (zi (K : Int))) (mix (plS n b i J K) J) M R) : zW X (d + 6) 102 52 [some (.ref 0), some (zi s), some (zi i), some (zi c), some (.ref (38 + 2 * s.toNat)), some (zi 0)] [] J M R P := by
  have h := placesC_z hR hs hi hc hn hzr hbr hn8 hz hb KK 9 0 (by decide) (by omega) (fun t ht => absurd ht (by omega)) (d := d) (X := X)
  rw [show plS n b i J 0 = J from rfl, mix_r] at h
  exact h
theorem placesR_01 {X : Nat × (Nat → Int32)} {d : Nat} {J M : zA} {R : zR} {P : zP} {s i c n z : Int} {b : Int → Int} (hR : zRoR R) (hs : 0 ≤ s ∧ s < 6) (hi : -2147483648 ≤ i ∧ i < 2147483648) (hc : 1 ≤ c ∧ c ≤ 8) (hn : 0 ≤ n ∧ n ≤ 8) (hzr : 0 ≤ z ∧ z ≤ 60) (hbr : ∀ y, 0 ≤ y → y < z → -128 ≤ b y ∧ b y ≤ 127) (hn5 : J 50 1 = n) (hz : J 84 s = z) (hb : ∀ y, 0 ≤ y → y < z → M 85 (60 * s + y) = b y) {K : Nat} (hok : ∀ t, t < K → pOk n b i z t) (hKc : (K : Int) ≤ c) (hend : (K : Int) = c ∨ ¬ pOk n b i z K) (KK : P (some (zi (K : Int))) (plS n b i J K) M R) {e5 e6 e7 : Option Value} : zW X (d + 6) 154 58 [some (.ref 50), some (zi s), some (zi i), some (zi c), some (zi 0), e5, e6, e7] [] (mix (plS n b i J K) J) M R P := by
  have h := placesR_z (d := d) (X := X) hR hs hi hc hn hzr hbr hn5 hz hb hok hKc hend (by rw [mix_r]; exact KK) K 0 e5 e6 e7 (by omega) (by omega)
  exact h
theorem st_places_2 {X : Nat × (Nat → Int32)} {d : Nat} {J M : zA} {R : zR} {s i c : Int} (hr : Rel X J M R) (hs : -2147483648 ≤ s ∧ s < 2147483648) (hi : -2147483648 ≤ i ∧ i < 2147483648) (hc : -2147483648 ≤ c ∧ c < 2147483648) (hs6 : 0 ≤ s ∧ s < 6) (hh : J (38 + 2 * s.toNat) 0 = 2) : zW X (d + 20) 102 0 (gEn 102 [(.ref 0), (zi s), (zi i), (zi c)]) [] J M R (stP X (d + 20) 154 [(zi s), (zi i), (zi c)]) := by
  have hr0 := hr
  obtain ⟨hR, hG, hY, hD, hP, hC, hAc, hS, hTp, hX, hW⟩ := hr0
  have hRr : zRoR R := zRoR_of hR
  have hY0 := hY
  obtain ⟨y1, y2, y3⟩ := hY0
  have yn := zNn y3
  have e83 : J 83 s = -2 - J (38 + 2 * s.toNat) 2 := (hS s hs6.1 hs6.2).1.symm.trans (cH_2 hh)
  have s3 : 0 ≤ J (38 + 2 * s.toNat) 2 ∧ J (38 + 2 * s.toNat) 2 ≤ 4 := (hS s hs6.1 hs6.2).2.2.1
  have s4 : 0 ≤ J (38 + 2 * s.toNat) 3 ∧ J (38 + 2 * s.toNat) 3 ≤ 60 := (hS s hs6.1 hs6.2).2.2.2.1
  have s6 := (hS s hs6.1 hs6.2).2.2.2.2.2 hh
  have s7 : J 84 s = J (38 + 2 * s.toNat) 3 := s6.1.symm
  have s8 : ∀ i, 0 ≤ i → i < J (38 + 2 * s.toNat) 3 → M (39 + 2 * s.toNat) i = M 85 (60 * s + i) := s6.2.1
  show zW _ _ _ _ [some (.ref 0), some (zi s), some (zi i), some (zi c), none, none] _ _ _ _ _
  refine z_iload1 gi_102_0 ?_
  refine z_cS1 gi_102_1 (Nat.le_of_ble_eq_true rfl) gc_143_I ?_
  refine z_iload0 gi_143_0 ?_
  refine z_if_ltF gi_143_1 (by omega) (by omega) ?_
  refine z_iload0 gi_143_4 ?_
  refine z_pushJ gp_143_5 ?_
  refine z_icmp_geF gi_143_7 (by omega) zr_6 (by omega) ?_
  refine z_pushJ gp_143_10 ?_
  refine z_goto gi_143_11 ?_
  refine z_bret1 gi_143_15 gr_143 ?_
  show zW _ _ _ _ _ _ _ _ _ _
  refine z_if_eqF gi_102_4 zr_1 (by decide) ?_
  refine z_iload3 gi_102_7 ?_
  refine z_pushJ gp_102_8 ?_
  refine z_icmp_lt gi_102_9 (by omega) zr_1 (fun h1 => ?_) (fun h1 => ?_)
  · refine z_pushJ gp_102_18 ?_
    refine z_iret gi_102_19 gr_102 ?_
    refine ⟨_, rfl, ?_⟩
    show zW _ _ _ _ [some (.ref 50), some (zi s), some (zi i), some (zi c), none, none, none, none] _ _ _ _ _
    refine z_iload1 gi_154_0 ?_
    refine z_cS1 gi_154_1 (Nat.le_of_ble_eq_true rfl) gc_248_I ?_
    refine z_iload0 gi_248_0 ?_
    refine z_pushJ gp_248_1 ?_
    refine z_pushJ gp_248_2 ?_
    refine z_cS3 gi_248_3 (Nat.le_of_ble_eq_true rfl) gc_148_III ?_
    refine z_iload0 gi_148_0 ?_
    refine z_iload1 gi_148_1 ?_
    refine z_icmp_ltF gi_148_2 (by omega) zr_0 (by omega) ?_
    refine z_iload0 gi_148_5 ?_
    refine z_iload2 gi_148_6 ?_
    refine z_icmp_gtF gi_148_7 (by omega) zr_5 (by omega) ?_
    refine z_pushJ gp_148_10 ?_
    refine z_goto gi_148_11 ?_
    refine z_bret1 gi_148_15 gr_148 ?_
    show zW _ _ _ _ _ _ _ _ _ _
    refine z_bret1 gi_248_6 gr_248 ?_
    show zW _ _ _ _ _ _ _ _ _ _
    refine z_if_eqF gi_154_4 zr_1 (by decide) ?_
    refine z_iload3 gi_154_7 ?_
    refine z_pushJ gp_154_8 ?_
    refine z_pushJ gp_154_9 ?_
    refine z_cS3 gi_154_11 (Nat.le_of_ble_eq_true rfl) gc_148_III ?_
    refine z_iload0 gi_148_0 ?_
    refine z_iload1 gi_148_1 ?_
    refine z_icmp_ltT gi_148_2 (by omega) zr_1 (by omega) ?_
    refine z_pushJ gp_148_14 ?_
    refine z_bret0 gi_148_15 gr_148 ?_
    show zW _ _ _ _ _ _ _ _ _ _
    refine z_if_neF gi_154_14 zr_0 (by decide) ?_
    refine z_pushJ gp_154_17 ?_
    refine z_iret gi_154_18 gr_154 ?_
    refine ⟨?_, ?_⟩
    · first | rfl | exact congrArg (fun v => some (zi v)) (by omega) | (exfalso; omega)
    · exact hr
  · refine z_iload3 gi_102_12 ?_
    refine z_pushJ gp_102_13 ?_
    refine z_icmp_le gi_102_15 (by omega) zr_8 (fun h2 => ?_) (fun h2 => ?_)
    · refine z_aload0 gi_102_20 ?_
      refine z_getR (r := 37) gi_102_21 gk_0 (hR _ rm_0_11) ?_
      refine z_iload1 gi_102_24 ?_
      refine z_aald (r := 38 + 2 * s.toNat) gi_102_25 rfl (by decide) (by omega) (rr_shelf hR (by omega)) ?_
      refine z_astore (ls1 := [some (.ref 0), some (zi s), some (zi i), some (zi c), some (.ref (38 + 2 * s.toNat)), none]) gi_102_26 rfl ?_
      refine z_aload4 gi_102_28 ?_
      refine z_callVi (As := []) (le := [some _]) gi_102_30 rfl (zk_shelf (by omega)) (Nat.le_of_ble_eq_true rfl) (Nat.le_of_ble_eq_true rfl) rfl ?_
      refine z_aload0 gi_62_0 ?_
      refine z_getI (v := 2) gi_62_1 (zk_shelf (by omega)) (hh) ?_
      refine z_if_neT gi_62_4 zr_2 (by decide) ?_
      refine z_pushJ gp_62_11 ?_
      refine z_bret0 gi_62_12 gr_62 ?_
      show zW _ _ _ _ _ _ _ _ _ _
      refine z_if_eqT gi_102_33 zr_0 (by decide) ?_
      refine z_aload4 gi_102_38 ?_
      refine z_callVi (As := []) (le := [some _]) gi_102_40 rfl (zk_shelf (by omega)) (Nat.le_of_ble_eq_true rfl) (Nat.le_of_ble_eq_true rfl) rfl ?_
      refine z_aload0 gi_64_0 ?_
      refine z_getI (v := 2) gi_64_1 (zk_shelf (by omega)) (hh) ?_
      refine z_pushJ gp_64_4 ?_
      refine z_icmp_neF gi_64_5 zr_2 zr_2 (by decide) ?_
      refine z_aload0 gi_64_8 ?_
      refine z_getI (v := J (38 + 2 * s.toNat) 2) gi_64_9 (zk_shelf (by omega)) (rfl) ?_
      refine z_if_ne gi_64_12 (by omega) (fun h3 => ?_) (fun h3 => ?_)
      · refine z_pushJ gp_64_19 ?_
        refine z_bret0 gi_64_20 gr_64 ?_
        show zW _ _ _ _ _ _ _ _ _ _
        refine z_if_neF gi_102_43 zr_0 (by decide) ?_
        refine z_pushJ gp_102_46 ?_
        refine z_iret gi_102_48 gr_102 ?_
        refine ⟨_, rfl, ?_⟩
        show zW _ _ _ _ [some (.ref 50), some (zi s), some (zi i), some (zi c), none, none, none, none] _ _ _ _ _
        refine z_iload1 gi_154_0 ?_
        refine z_cS1 gi_154_1 (Nat.le_of_ble_eq_true rfl) gc_248_I ?_
        refine z_iload0 gi_248_0 ?_
        refine z_pushJ gp_248_1 ?_
        refine z_pushJ gp_248_2 ?_
        refine z_cS3 gi_248_3 (Nat.le_of_ble_eq_true rfl) gc_148_III ?_
        refine z_iload0 gi_148_0 ?_
        refine z_iload1 gi_148_1 ?_
        refine z_icmp_ltF gi_148_2 (by omega) zr_0 (by omega) ?_
        refine z_iload0 gi_148_5 ?_
        refine z_iload2 gi_148_6 ?_
        refine z_icmp_gtF gi_148_7 (by omega) zr_5 (by omega) ?_
        refine z_pushJ gp_148_10 ?_
        refine z_goto gi_148_11 ?_
        refine z_bret1 gi_148_15 gr_148 ?_
        show zW _ _ _ _ _ _ _ _ _ _
        refine z_bret1 gi_248_6 gr_248 ?_
        show zW _ _ _ _ _ _ _ _ _ _
        refine z_if_eqF gi_154_4 zr_1 (by decide) ?_
        refine z_iload3 gi_154_7 ?_
        refine z_pushJ gp_154_8 ?_
        refine z_pushJ gp_154_9 ?_
        refine z_cS3 gi_154_11 (Nat.le_of_ble_eq_true rfl) gc_148_III ?_
        refine z_iload0 gi_148_0 ?_
        refine z_iload1 gi_148_1 ?_
        refine z_icmp_ltF gi_148_2 (by omega) zr_1 (by omega) ?_
        refine z_iload0 gi_148_5 ?_
        refine z_iload2 gi_148_6 ?_
        refine z_icmp_gtF gi_148_7 (by omega) zr_8 (by omega) ?_
        refine z_pushJ gp_148_10 ?_
        refine z_goto gi_148_11 ?_
        refine z_bret1 gi_148_15 gr_148 ?_
        show zW _ _ _ _ _ _ _ _ _ _
        refine z_if_neT gi_154_14 zr_1 (by decide) ?_
        refine z_aload0 gi_154_19 ?_
        refine z_getR (r := 83) gi_154_20 gk_50 (hRr _ rm_50_58 (by decide)) ?_
        refine z_iload1 gi_154_23 ?_
        refine z_iald (v := (-2) - (J (38 + 2 * s.toNat) 2)) gi_154_24 gk_83 (by decide) (by omega) (e83) ?_
        refine z_pushJ gp_154_25 ?_
        refine z_icmp_eqF gi_154_26 (by omega) zrn_1 (by omega) ?_
        refine z_aload0 gi_154_29 ?_
        refine z_getR (r := 83) gi_154_30 gk_50 (hRr _ rm_50_58 (by decide)) ?_
        refine z_iload1 gi_154_33 ?_
        refine z_iald (v := (-2) - (J (38 + 2 * s.toNat) 2)) gi_154_34 gk_83 (by decide) (by omega) (e83) ?_
        refine z_pushJ gp_154_35 ?_
        refine z_icmp_eqF gi_154_37 (by omega) zrn_2 (by omega) ?_
        refine z_pushJ gp_154_40 ?_
        refine z_iret gi_154_42 gr_154 ?_
        refine ⟨?_, ?_⟩
        · first | rfl | exact congrArg (fun v => some (zi v)) (by omega) | (exfalso; omega)
        · exact hr
      · refine z_pushJ gp_64_15 ?_
        refine z_goto gi_64_16 ?_
        refine z_bret1 gi_64_20 gr_64 ?_
        show zW _ _ _ _ _ _ _ _ _ _
        refine z_if_neT gi_102_43 zr_1 (by decide) ?_
        refine z_pushJ gp_102_49 ?_
        refine z_istore (ls1 := [some (.ref 0), some (zi s), some (zi i), some (zi c), some (.ref (38 + 2 * s.toNat)), some (zi 0)]) rfl rfl ?_
        show zW _ _ _ _ [some (.ref 0), some (zi s), some (zi i), some (zi c), some (.ref (38 + 2 * s.toNat)), some (zi 0)] [] _ _ _ _
        have hbr := s6.2.2 (by omega)
        refine placesC_01 (n := J 8 2) (b := (fun y => M (39 + 2 * s.toNat) y)) (z := (J (38 + 2 * s.toNat) 3)) hR hs6 hi (by omega) yn s4 hbr rfl rfl (fun y _ _ => rfl) (fun K k1 k2 k3 => ?_)
        refine ⟨_, rfl, ?_⟩
        show zW _ _ _ _ [some (.ref 50), some (zi s), some (zi i), some (zi c), none, none, none, none] _ _ _ _ _
        refine z_iload1 gi_154_0 ?_
        refine z_cS1 gi_154_1 (Nat.le_of_ble_eq_true rfl) gc_248_I ?_
        refine z_iload0 gi_248_0 ?_
        refine z_pushJ gp_248_1 ?_
        refine z_pushJ gp_248_2 ?_
        refine z_cS3 gi_248_3 (Nat.le_of_ble_eq_true rfl) gc_148_III ?_
        refine z_iload0 gi_148_0 ?_
        refine z_iload1 gi_148_1 ?_
        refine z_icmp_ltF gi_148_2 (by omega) zr_0 (by omega) ?_
        refine z_iload0 gi_148_5 ?_
        refine z_iload2 gi_148_6 ?_
        refine z_icmp_gtF gi_148_7 (by omega) zr_5 (by omega) ?_
        refine z_pushJ gp_148_10 ?_
        refine z_goto gi_148_11 ?_
        refine z_bret1 gi_148_15 gr_148 ?_
        show zW _ _ _ _ _ _ _ _ _ _
        refine z_bret1 gi_248_6 gr_248 ?_
        show zW _ _ _ _ _ _ _ _ _ _
        refine z_if_eqF gi_154_4 zr_1 (by decide) ?_
        refine z_iload3 gi_154_7 ?_
        refine z_pushJ gp_154_8 ?_
        refine z_pushJ gp_154_9 ?_
        refine z_cS3 gi_154_11 (Nat.le_of_ble_eq_true rfl) gc_148_III ?_
        refine z_iload0 gi_148_0 ?_
        refine z_iload1 gi_148_1 ?_
        refine z_icmp_lt gi_148_2 (by omega) zr_1 (fun h4 => ?_) (fun h4 => ?_)
        · refine z_pushJ gp_148_14 ?_
          refine z_bret0 gi_148_15 gr_148 ?_
          show zW _ _ _ _ _ _ _ _ _ _
          refine z_if_neF gi_154_14 zr_0 (by decide) ?_
          refine z_pushJ gp_154_17 ?_
          refine z_iret gi_154_18 gr_154 ?_
          exfalso
          omega
        · refine z_iload0 gi_148_5 ?_
          refine z_iload2 gi_148_6 ?_
          refine z_icmp_gt gi_148_7 (by omega) zr_8 (fun h5 => ?_) (fun h5 => ?_)
          · refine z_pushJ gp_148_14 ?_
            refine z_bret0 gi_148_15 gr_148 ?_
            show zW _ _ _ _ _ _ _ _ _ _
            refine z_if_neF gi_154_14 zr_0 (by decide) ?_
            refine z_pushJ gp_154_17 ?_
            refine z_iret gi_154_18 gr_154 ?_
            exfalso
            omega
          · refine z_pushJ gp_148_10 ?_
            refine z_goto gi_148_11 ?_
            refine z_bret1 gi_148_15 gr_148 ?_
            show zW _ _ _ _ _ _ _ _ _ _
            refine z_if_neT gi_154_14 zr_1 (by decide) ?_
            refine z_aload0 gi_154_19 ?_
            refine z_getR (r := 83) gi_154_20 gk_50 (hRr _ rm_50_58 (by decide)) ?_
            refine z_iload1 gi_154_23 ?_
            refine z_iald (v := (-2)) gi_154_24 gk_83 (by decide) (by omega) ((mix_h (by decide)).trans (e83.trans (by omega))) ?_
            refine z_pushJ gp_154_25 ?_
            refine z_icmp_eqF gi_154_26 zrn_2 zrn_1 (by decide) ?_
            refine z_aload0 gi_154_29 ?_
            refine z_getR (r := 83) gi_154_30 gk_50 (hRr _ rm_50_58 (by decide)) ?_
            refine z_iload1 gi_154_33 ?_
            refine z_iald (v := (-2)) gi_154_34 gk_83 (by decide) (by omega) ((mix_h (by decide)).trans (e83.trans (by omega))) ?_
            refine z_pushJ gp_154_35 ?_
            refine z_icmp_eqT gi_154_37 zrn_2 zrn_2 (by decide) ?_
            refine z_aload0 gi_154_43 ?_
            refine z_getR (r := 83) gi_154_44 gk_50 (hRr _ rm_50_58 (by decide)) ?_
            refine z_iload1 gi_154_47 ?_
            refine z_iald (v := (-2)) gi_154_48 gk_83 (by decide) (by omega) ((mix_h (by decide)).trans (e83.trans (by omega))) ?_
            refine z_pushJ gp_154_49 ?_
            refine z_icmp_neT gi_154_50 zrn_2 zrn_1 (by decide) ?_
            refine z_pushJ gp_154_55 ?_
            refine z_istore (ls1 := [some (.ref 50), some (zi s), some (zi i), some (zi c), some (zi 0), none, none, none]) gi_154_56 rfl ?_
            show zW _ _ _ _ [some (.ref 50), some (zi s), some (zi i), some (zi c), some (zi 0), none, none, none] [] _ _ _ _
            refine placesR_01 (d := d + 14) (n := J 8 2) (b := (fun y => M (39 + 2 * s.toNat) y)) (z := (J (38 + 2 * s.toNat) 3)) hRr hs6 hi (by omega) yn s4 hbr y2.symm s7 (fun y a1 a2 => (s8 y a1 a2).symm) k1 k2 k3 ⟨rfl, ?_⟩
            exact Rel_plS hr rfl K k1
    · refine z_pushJ gp_102_18 ?_
      refine z_iret gi_102_19 gr_102 ?_
      refine ⟨_, rfl, ?_⟩
      show zW _ _ _ _ [some (.ref 50), some (zi s), some (zi i), some (zi c), none, none, none, none] _ _ _ _ _
      refine z_iload1 gi_154_0 ?_
      refine z_cS1 gi_154_1 (Nat.le_of_ble_eq_true rfl) gc_248_I ?_
      refine z_iload0 gi_248_0 ?_
      refine z_pushJ gp_248_1 ?_
      refine z_pushJ gp_248_2 ?_
      refine z_cS3 gi_248_3 (Nat.le_of_ble_eq_true rfl) gc_148_III ?_
      refine z_iload0 gi_148_0 ?_
      refine z_iload1 gi_148_1 ?_
      refine z_icmp_ltF gi_148_2 (by omega) zr_0 (by omega) ?_
      refine z_iload0 gi_148_5 ?_
      refine z_iload2 gi_148_6 ?_
      refine z_icmp_gtF gi_148_7 (by omega) zr_5 (by omega) ?_
      refine z_pushJ gp_148_10 ?_
      refine z_goto gi_148_11 ?_
      refine z_bret1 gi_148_15 gr_148 ?_
      show zW _ _ _ _ _ _ _ _ _ _
      refine z_bret1 gi_248_6 gr_248 ?_
      show zW _ _ _ _ _ _ _ _ _ _
      refine z_if_eqF gi_154_4 zr_1 (by decide) ?_
      refine z_iload3 gi_154_7 ?_
      refine z_pushJ gp_154_8 ?_
      refine z_pushJ gp_154_9 ?_
      refine z_cS3 gi_154_11 (Nat.le_of_ble_eq_true rfl) gc_148_III ?_
      refine z_iload0 gi_148_0 ?_
      refine z_iload1 gi_148_1 ?_
      refine z_icmp_ltF gi_148_2 (by omega) zr_1 (by omega) ?_
      refine z_iload0 gi_148_5 ?_
      refine z_iload2 gi_148_6 ?_
      refine z_icmp_gtT gi_148_7 (by omega) zr_8 (by omega) ?_
      refine z_pushJ gp_148_14 ?_
      refine z_bret0 gi_148_15 gr_148 ?_
      show zW _ _ _ _ _ _ _ _ _ _
      refine z_if_neF gi_154_14 zr_0 (by decide) ?_
      refine z_pushJ gp_154_17 ?_
      refine z_iret gi_154_18 gr_154 ?_
      refine ⟨?_, ?_⟩
      · first | rfl | exact congrArg (fun v => some (zi v)) (by omega) | (exfalso; omega)
      · exact hr
theorem st_places {X : Nat × (Nat → Int32)} {d : Nat} {J M : zA} {R : zR} {s i c : Int} (hr : Rel X J M R) (hs : -2147483648 ≤ s ∧ s < 2147483648) (hi : -2147483648 ≤ i ∧ i < 2147483648) (hc : -2147483648 ≤ c ∧ c < 2147483648) : zW X (d + 20) 102 0 (gEn 102 [(.ref 0), (zi s), (zi i), (zi c)]) [] J M R (stP X (d + 20) 154 [(zi s), (zi i), (zi c)]) := by
  by_cases hs6 : 0 ≤ s ∧ s < 6
  · have hS : RelS J M := hr.2.2.2.2.2.2.2.1
    have h2 := (hS s hs6.1 hs6.2).2.1
    have h4 : J (38 + 2 * s.toNat) 0 = 0 ∨ J (38 + 2 * s.toNat) 0 = 1 ∨ J (38 + 2 * s.toNat) 0 = 2 := by omega
    rcases h4 with hh | hh | hh
    · exact st_places_0 hr hs hi hc hs6 hh
    · exact st_places_1 hr hs hi hc hs6 hh
    · exact st_places_2 hr hs hi hc hs6 hh
  · exact st_places_n hr hs hi hc hs6
