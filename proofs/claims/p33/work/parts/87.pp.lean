/-- a place more, on both sides -/
def plA (n : Int) (A : zA) (x y o : Int) : zA := (zU (zU (zU (zU (zU (zU (zU (zU (zU (zU (zU (zU (zU (zU A 8 2 (n + 1)) 9 (n * 5 + 0) x) 9 (n * 5 + 1) y) 9 (n * 5 + 2) o) 9 (n * 5 + 3) 5) 9 (n * 5 + 4) 0) 51 n x) 52 n y) 53 n o) 54 n 5) 55 n 0) 75 n 0) 76 n 0) 50 1 (n + 1))
/-- k places more -/
def plS (n : Int) (b : Int → Int) (i : Int) (J : zA) : Nat → zA
  | 0 => J
  | k + 1 => plA (n + k) (plS n b i J k) (b (i + 3 * k)) (b (i + 3 * k + 1)) (b (i + 3 * k + 2))
abbrev pOk (n : Int) (b : Int → Int) (i z : Int) (t : Nat) : Prop := (0 ≤ i + 3 * t ∧ i + 3 * t + 3 ≤ z ∧ n + t < 8) ∧ (0 ≤ b (i + 3 * t) ∧ b (i + 3 * t) ≤ 99) ∧ (0 ≤ b (i + 3 * t + 1) ∧ b (i + 3 * t + 1) ≤ 99) ∧ (0 ≤ b (i + 3 * t + 2) ∧ b (i + 3 * t + 2) ≤ 99)
theorem plS_8 {n : Int} {b : Int → Int} {i : Int} {J : zA} (h : J 8 2 = n) : ∀ k : Nat, plS n b i J k 8 2 = n + k := by
  intro k
  cases k with
  | zero => exact h.trans (by omega)
  | succ k => exact (show plS n b i J (k + 1) 8 2 = n + k + 1 from rfl).trans (by omega)
theorem plS_50 {n : Int} {b : Int → Int} {i : Int} {J : zA} (h : J 50 1 = n) : ∀ k : Nat, plS n b i J k 50 1 = n + k := by
  intro k
  cases k with
  | zero => exact h.trans (by omega)
  | succ k => exact (show plS n b i J (k + 1) 50 1 = n + k + 1 from rfl).trans (by omega)
/-- the class's part of A, the reference's part of B -/
def mix (A B : zA) : zA := fun x y => if x < 50 then A x y else B x y
theorem mix_r {A : zA} : mix A A = A := by
  funext x y
  unfold mix
  split <;> rfl
theorem mix_a {A B : zA} {c : Nat} {x v : Int} (h : c < 50) : mix (zU A c x v) B = zU (mix A B) c x v := by
  funext y z
  show (if y < 50 then (if y = c then (if z = x then v else A y z) else A y z) else B y z) = (if y = c then (if z = x then v else (if y < 50 then A y z else B y z)) else (if y < 50 then A y z else B y z))
  by_cases e : y = c
  · have h2 : y < 50 := by omega
    simp only [if_pos e, if_pos h2]
  · simp only [if_neg e]
theorem mix_b {A B : zA} {c : Nat} {x v : Int} (h : 50 ≤ c) : mix (zU A c x v) B = mix A B := by
  funext y z
  show (if y < 50 then (if y = c then (if z = x then v else A y z) else A y z) else B y z) = (if y < 50 then A y z else B y z)
  by_cases e : y < 50
  · simp only [if_neg (show ¬ y = c by omega)]
  · simp only [if_neg e]
theorem mix_c {A B : zA} {c : Nat} {x v : Int} (h : 50 ≤ c) : mix A (zU B c x v) = zU (mix A B) c x v := by
  funext y z
  show (if y < 50 then A y z else (if y = c then (if z = x then v else B y z) else B y z)) = (if y = c then (if z = x then v else (if y < 50 then A y z else B y z)) else (if y < 50 then A y z else B y z))
  by_cases e : y = c
  · have h2 : ¬ y < 50 := by omega
    simp only [if_pos e, if_neg h2]
  · simp only [if_neg e]
theorem mix_d {A B : zA} {c : Nat} {x v : Int} (h : c < 50) : mix A (zU B c x v) = mix A B := by
  funext y z
  show (if y < 50 then A y z else (if y = c then (if z = x then v else B y z) else B y z)) = (if y < 50 then A y z else B y z)
  by_cases e : y < 50
  · simp only [if_pos e]
  · simp only [if_neg (show ¬ y = c by omega)]
theorem mix_l {A B : zA} {c : Nat} {x : Int} (h : c < 50) : mix A B c x = A c x := by unfold mix; rw [if_pos h]
theorem mix_h {A B : zA} {c : Nat} {x : Int} (h : 50 ≤ c) : mix A B c x = B c x := by unfold mix; rw [if_neg (by omega)]
theorem plA_l {n x y o : Int} {A B : zA} : mix (plA n A x y o) B = (zU (zU (zU (zU (zU (zU (mix A B) 8 2 (n + 1)) 9 (n * 5 + 0) x) 9 (n * 5 + 1) y) 9 (n * 5 + 2) o) 9 (n * 5 + 3) 5) 9 (n * 5 + 4) 0) := by
  unfold plA
  rw [mix_b (by decide), mix_b (by decide), mix_b (by decide), mix_b (by decide), mix_b (by decide), mix_b (by decide), mix_b (by decide), mix_b (by decide), mix_a (by decide), mix_a (by decide), mix_a (by decide), mix_a (by decide), mix_a (by decide), mix_a (by decide)]
theorem plA_h {n x y o : Int} {A B : zA} : mix A (plA n B x y o) = (zU (zU (zU (zU (zU (zU (zU (zU (mix A B) 51 n x) 52 n y) 53 n o) 54 n 5) 55 n 0) 75 n 0) 76 n 0) 50 1 (n + 1)) := by
  unfold plA
  rw [mix_c (by decide), mix_c (by decide), mix_c (by decide), mix_c (by decide), mix_c (by decide), mix_c (by decide), mix_c (by decide), mix_c (by decide), mix_d (by decide), mix_d (by decide), mix_d (by decide), mix_d (by decide), mix_d (by decide), mix_d (by decide)]
theorem Rel_add {X : Nat × (Nat → Int32)} {J M : zA} {R : zR} {x y o n : Int} (hr : Rel X J M R) (hn : J 8 2 = n) (h8 : n < 8) (hx : 0 ≤ x ∧ x ≤ 99) (hy : 0 ≤ y ∧ y ≤ 99) (ho : 0 ≤ o ∧ o ≤ 99) : Rel X (plA n J x y o) M R := by
  subst hn
  obtain ⟨hR, hG, hY, hD, hP, hC, hAc, hS, hTp, hX, hW⟩ := hr
  unfold plA
  have hk := (zK_x (a := 50) (x := 1) (v := J 8 2 + 1) (zK_x (a := 76) (x := J 8 2) (v := 0) (zK_x (a := 75) (x := J 8 2) (v := 0) (zK_x (a := 55) (x := J 8 2) (v := 0) (zK_x (a := 54) (x := J 8 2) (v := 5) (zK_x (a := 53) (x := J 8 2) (v := o) (zK_x (a := 52) (x := J 8 2) (v := y) (zK_x (a := 51) (x := J 8 2) (v := x) (zK_x (a := 9) (x := J 8 2 * 5 + 4) (v := 0) (zK_x (a := 9) (x := J 8 2 * 5 + 3) (v := 5) (zK_x (a := 9) (x := J 8 2 * 5 + 2) (v := o) (zK_x (a := 9) (x := J 8 2 * 5 + 1) (v := y) (zK_x (a := 9) (x := J 8 2 * 5 + 0) (v := x) (zK_x (a := 8) (x := 2) (v := J 8 2 + 1) (zK_r (k := (kL [9, 51, 52, 53, 54, 55, 75, 76] [(8, 2), (50, 1)])) (A := J)) rfl) rfl) rfl) rfl) rfl) rfl) rfl) rfl) rfl) rfl) rfl) rfl) rfl) rfl)
  exact ⟨hR, hG, RelY_add hY h8 hx hy ho, RelD_add hD h8, RelP_add hP, RelC_add hC, RelA_k hk (by repeat' constructor) (fun p => by repeat' constructor) hAc, RelS_k hk (zK_r (k := kM)) (fun x j a b => ⟨kL_38 (by decide) (by decide) x j a b, kM_38 x j a b⟩) (fun p => ⟨rfl, rfl, rfl⟩) rfl hS, RelT_k hk (by repeat' constructor) (fun p => by repeat' constructor) hTp, RelX_k hk (by repeat' constructor) (fun p => by repeat' constructor) hX, RelW_k hk ⟨rfl, rfl⟩ trivial hW⟩
theorem Rel_plS {X : Nat × (Nat → Int32)} {J M : zA} {R : zR} {n : Int} {b : Int → Int} {i z : Int} (hr : Rel X J M R) (hn : J 8 2 = n) : ∀ K : Nat, (∀ t, t < K → pOk n b i z t) → Rel X (plS n b i J K) M R := by
  intro K
  induction K with
  | zero => exact fun _ => hr
  | succ K ih =>
    intro h
    obtain ⟨⟨q1, q2, q3⟩, q4, q5, q6⟩ := h K (by omega)
    exact Rel_add (ih (fun t ht => h t (by omega))) (plS_8 hn K) (by omega) q4 q5 q6
theorem plS_x {n : Int} {b : Int → Int} {i : Int} {J : zA} {c : Nat} {y : Int} (h : 10 ≤ c ∧ c < 50) : ∀ k : Nat, plS n b i J k c y = J c y := by
  intro k
  induction k with
  | zero => rfl
  | succ k ih =>
    refine Eq.trans ?_ ih
    show plA _ _ _ _ _ c y = _
    unfold plA
    rw [zU_n (by omega), zU_n (by omega), zU_n (by omega), zU_n (by omega), zU_n (by omega), zU_n (by omega), zU_n (by omega), zU_n (by omega), zU_n (by omega), zU_n (by omega), zU_n (by omega), zU_n (by omega), zU_n (by omega), zU_n (by omega)]
theorem plS_y {n : Int} {b : Int → Int} {i : Int} {J : zA} {c : Nat} {y : Int} (h : 83 ≤ c) : ∀ k : Nat, plS n b i J k c y = J c y := by
  intro k
  induction k with
  | zero => rfl
  | succ k ih =>
    refine Eq.trans ?_ ih
    show plA _ _ _ _ _ c y = _
    unfold plA
    rw [zU_n (by omega), zU_n (by omega), zU_n (by omega), zU_n (by omega), zU_n (by omega), zU_n (by omega), zU_n (by omega), zU_n (by omega), zU_n (by omega), zU_n (by omega), zU_n (by omega), zU_n (by omega), zU_n (by omega), zU_n (by omega)]
theorem placesC_z {X : Nat × (Nat → Int32)} {d : Nat} {J M : zA} {R : zR} {P : zP} {s i c n z : Int} {b : Int → Int} (hR : zRok R) (hs : 0 ≤ s ∧ s < 6) (hi : -2147483648 ≤ i ∧ i < 2147483648) (hc : 1 ≤ c ∧ c ≤ 8) (hn : 0 ≤ n ∧ n ≤ 8) (hzr : 0 ≤ z ∧ z ≤ 60) (hbr : ∀ y, 0 ≤ y → y < z → -128 ≤ b y ∧ b y ≤ 127) (hn8 : J 8 2 = n) (hz : J (38 + 2 * s.toNat) 3 = z) (hb : ∀ y, 0 ≤ y → y < z → M (39 + 2 * s.toNat) y = b y) (KK : ∀ K : Nat, (∀ t, t < K → pOk n b i z t) → (K : Int) ≤ c → ((K : Int) = c ∨ ¬ pOk n b i z K) → P (some (zi (K : Int))) (mix (plS n b i J K) J) M R) : ∀ (j k : Nat), k + j = 9 → (k : Int) ≤ c → (∀ t, t < k → pOk n b i z t) → zW X (d + 6) 102 52 [some (.ref 0), some (zi s), some (zi i), some (zi c), some (.ref (38 + 2 * s.toNat)), some (zi (k : Int))] [] (mix (plS n b i J k) J) M R P := by
  intro j
  induction j with
  | zero =>
    intro k hk hkc hok
    exfalso
    omega
  | succ j ih =>
    intro k hk hkc hok
    refine z_iload rfl rfl ?_
    refine z_iload rfl rfl ?_
    refine z_icmp_ge rfl (by omega) (by omega) (fun h1 => ?_) (fun h1 => ?_)
    · refine z_iload rfl rfl ?_
      refine z_iret rfl rfl ?_
      first | exact KK k hok (by omega) (Or.inl (by omega)) | exact KK k hok (by omega) (Or.inr (fun q => by obtain ⟨⟨q1, q2, q3⟩, q4, q5, q6⟩ := q; omega))
    · refine z_aload rfl rfl ?_
      refine z_aload rfl rfl ?_
      refine z_iload rfl rfl ?_
      refine z_i2l rfl (by omega) ?_
      refine z_pushL (z := 3) rfl rfl ?_
      refine z_iload rfl rfl ?_
      refine z_i2l rfl (by omega) ?_
      refine z_lmul (e := 3 * (k : Int)) rfl rfl ?_
      refine z_ladd (e := i + 3 * (k : Int)) rfl rfl ?_
      refine z_callVi (As := [_, _]) (le := [some _, some _, some _, none, none, none, none, none]) rfl rfl rfl (Nat.le_of_ble_eq_true rfl) (Nat.le_of_ble_eq_true rfl) rfl ?_
      refine z_lload rfl rfl ?_
      refine z_pushL (z := 0) rfl rfl ?_
      refine z_lcmp_lt rfl rfl (by omega) (by omega) (fun h2 => ?_) (fun h2 => ?_)
      · refine z_pushI (z := 0) rfl rfl ?_
        refine z_bret rfl rfl (by decide) ?_
        show zW _ _ _ _ _ _ _ _ _ _
        refine z_if_eqT rfl (by decide) (by decide) ?_
        refine z_iload rfl rfl ?_
        refine z_iret rfl rfl ?_
        first | exact KK k hok (by omega) (Or.inl (by omega)) | exact KK k hok (by omega) (Or.inr (fun q => by obtain ⟨⟨q1, q2, q3⟩, q4, q5, q6⟩ := q; omega))
      · refine z_lload rfl rfl ?_
        refine z_pushL (z := 3) rfl rfl ?_
        refine z_ladd (e := i + 3 * (k : Int) + 3) rfl rfl ?_
        refine z_aload rfl rfl ?_
        refine z_getI (v := z) rfl (zk_shelf (by omega)) ((mix_l (by omega)).trans ((plS_x (by omega) k).trans hz)) ?_
        refine z_i2l rfl (by omega) ?_
        refine z_lcmp_gt rfl rfl (by omega) (by omega) (fun h3 => ?_) (fun h3 => ?_)
        · refine z_pushI (z := 0) rfl rfl ?_
          refine z_bret rfl rfl (by decide) ?_
          show zW _ _ _ _ _ _ _ _ _ _
          refine z_if_eqT rfl (by decide) (by decide) ?_
          refine z_iload rfl rfl ?_
          refine z_iret rfl rfl ?_
          first | exact KK k hok (by omega) (Or.inl (by omega)) | exact KK k hok (by omega) (Or.inr (fun q => by obtain ⟨⟨q1, q2, q3⟩, q4, q5, q6⟩ := q; omega))
        · refine z_aload rfl rfl ?_
          refine z_getR (r := 8) rfl rfl (hR _ rm_0_1) ?_
          refine z_getI (v := n + (k : Int)) rfl rfl ((mix_l (by decide)).trans (plS_8 hn8 k)) ?_
          refine z_pushI (z := 8) rfl rfl ?_
          refine z_icmp_lt rfl (by omega) (by decide) (fun h4 => ?_) (fun h4 => ?_)
          · refine z_lload rfl rfl ?_
            refine z_l2i rfl ?_
            refine z_istore rfl rfl ?_
            refine z_aload rfl rfl ?_
            refine z_iload rfl rfl ?_
            refine z_callVi (As := [_]) (le := [some _, some _]) rfl rfl (zk_shelf (by omega)) (Nat.le_of_ble_eq_true rfl) (Nat.le_of_ble_eq_true rfl) rfl ?_
            refine z_iload rfl rfl ?_
            refine z_if_ltF rfl (by omega) (by omega) ?_
            refine z_iload rfl rfl ?_
            refine z_aload rfl rfl ?_
            refine z_getI (v := z) rfl (zk_shelf (by omega)) ((mix_l (by omega)).trans ((plS_x (by omega) k).trans hz)) ?_
            refine z_icmp_geF rfl (by omega) (by omega) (by omega) ?_
            refine z_aload rfl rfl ?_
            refine z_getR (r := 39 + 2 * s.toNat) rfl (zk_shelf (by omega)) (rr_cells hR (by omega)) ?_
            refine z_iload rfl rfl ?_
            have q5 := hbr (i + 3 * (k : Int)) (by omega) (by omega)
            refine z_lald (v := b (i + 3 * (k : Int))) rfl (zk_cells (by omega)) (by decide) (by omega) (hb _ (by omega) (by omega)) ?_
            refine z_goto rfl ?_
            refine z_lret rfl rfl ?_
            show zW _ _ _ _ _ _ _ _ _ _
            refine z_l2i rfl ?_
            refine z_istore rfl rfl ?_
            refine z_aload rfl rfl ?_
            refine z_iload rfl rfl ?_
            refine z_pushI (z := 1) rfl rfl ?_
            refine z_iadd (e := i + 3 * (k : Int) + 1) rfl rfl ?_
            refine z_callVi (As := [_]) (le := [some _, some _]) rfl rfl (zk_shelf (by omega)) (Nat.le_of_ble_eq_true rfl) (Nat.le_of_ble_eq_true rfl) rfl ?_
            refine z_iload rfl rfl ?_
            refine z_if_ltF rfl (by omega) (by omega) ?_
            refine z_iload rfl rfl ?_
            refine z_aload rfl rfl ?_
            refine z_getI (v := z) rfl (zk_shelf (by omega)) ((mix_l (by omega)).trans ((plS_x (by omega) k).trans hz)) ?_
            refine z_icmp_geF rfl (by omega) (by omega) (by omega) ?_
            refine z_aload rfl rfl ?_
            refine z_getR (r := 39 + 2 * s.toNat) rfl (zk_shelf (by omega)) (rr_cells hR (by omega)) ?_
            refine z_iload rfl rfl ?_
            have q6 := hbr (i + 3 * (k : Int) + 1) (by omega) (by omega)
            refine z_lald (v := b (i + 3 * (k : Int) + 1)) rfl (zk_cells (by omega)) (by decide) (by omega) (hb _ (by omega) (by omega)) ?_
            refine z_goto rfl ?_
            refine z_lret rfl rfl ?_
            show zW _ _ _ _ _ _ _ _ _ _
            refine z_l2i rfl ?_
            refine z_istore rfl rfl ?_
            refine z_aload rfl rfl ?_
            refine z_iload rfl rfl ?_
            refine z_pushI (z := 2) rfl rfl ?_
            refine z_iadd (e := i + 3 * (k : Int) + 2) rfl rfl ?_
            refine z_callVi (As := [_]) (le := [some _, some _]) rfl rfl (zk_shelf (by omega)) (Nat.le_of_ble_eq_true rfl) (Nat.le_of_ble_eq_true rfl) rfl ?_
            refine z_iload rfl rfl ?_
            refine z_if_ltF rfl (by omega) (by omega) ?_
            refine z_iload rfl rfl ?_
            refine z_aload rfl rfl ?_
            refine z_getI (v := z) rfl (zk_shelf (by omega)) ((mix_l (by omega)).trans ((plS_x (by omega) k).trans hz)) ?_
            refine z_icmp_geF rfl (by omega) (by omega) (by omega) ?_
            refine z_aload rfl rfl ?_
            refine z_getR (r := 39 + 2 * s.toNat) rfl (zk_shelf (by omega)) (rr_cells hR (by omega)) ?_
            refine z_iload rfl rfl ?_
            have q7 := hbr (i + 3 * (k : Int) + 2) (by omega) (by omega)
            refine z_lald (v := b (i + 3 * (k : Int) + 2)) rfl (zk_cells (by omega)) (by decide) (by omega) (hb _ (by omega) (by omega)) ?_
            refine z_goto rfl ?_
            refine z_lret rfl rfl ?_
            show zW _ _ _ _ _ _ _ _ _ _
            refine z_l2i rfl ?_
            refine z_istore rfl rfl ?_
            refine z_pushI (z := 0) rfl rfl ?_
            refine z_iload rfl rfl ?_
            refine z_callSi (As := [_, _]) (le := [some _, some _]) rfl rfl (Nat.le_of_ble_eq_true rfl) (Nat.le_of_ble_eq_true rfl) rfl ?_
            refine z_iload rfl rfl ?_
            refine z_if_ltF rfl (by decide) (by decide) ?_
            refine z_iload rfl rfl ?_
            refine z_pushI (z := 14) rfl rfl ?_
            refine z_icmp_geF rfl (by decide) (by decide) (by decide) ?_
            refine z_iload rfl rfl ?_
            refine z_getS rfl ?_
            refine z_iload rfl rfl ?_
            refine z_sald (j := 1) (n := 14) (v := 0) rfl (by decide) rfl (by decide) (by decide) rfl ?_
            refine z_icmp_lt rfl (by omega) (by decide) (fun h8 => ?_) (fun h8 => ?_)
            · refine z_pushI (z := 0) rfl rfl ?_
              refine z_bret rfl rfl (by decide) ?_
              show zW _ _ _ _ _ _ _ _ _ _
              refine z_if_eqT rfl (by decide) (by decide) ?_
              refine z_pushI (z := 0) rfl rfl ?_
              refine z_bret rfl rfl (by decide) ?_
              show zW _ _ _ _ _ _ _ _ _ _
              refine z_if_eqT rfl (by decide) (by decide) ?_
              refine z_iload rfl rfl ?_
              refine z_iret rfl rfl ?_
              first | exact KK k hok (by omega) (Or.inl (by omega)) | exact KK k hok (by omega) (Or.inr (fun q => by obtain ⟨⟨q1, q2, q3⟩, q4, q5, q6⟩ := q; omega))
            · refine z_iload rfl rfl ?_
              refine z_getS rfl ?_
              refine z_iload rfl rfl ?_
              refine z_sald (j := 2) (n := 14) (v := 99) rfl (by decide) rfl (by decide) (by decide) rfl ?_
              refine z_icmp_gt rfl (by omega) (by decide) (fun h9 => ?_) (fun h9 => ?_)
              · refine z_pushI (z := 0) rfl rfl ?_
                refine z_bret rfl rfl (by decide) ?_
                show zW _ _ _ _ _ _ _ _ _ _
                refine z_if_eqT rfl (by decide) (by decide) ?_
                refine z_pushI (z := 0) rfl rfl ?_
                refine z_bret rfl rfl (by decide) ?_
                show zW _ _ _ _ _ _ _ _ _ _
                refine z_if_eqT rfl (by decide) (by decide) ?_
                refine z_iload rfl rfl ?_
                refine z_iret rfl rfl ?_
                first | exact KK k hok (by omega) (Or.inl (by omega)) | exact KK k hok (by omega) (Or.inr (fun q => by obtain ⟨⟨q1, q2, q3⟩, q4, q5, q6⟩ := q; omega))
              · refine z_pushI (z := 1) rfl rfl ?_
                refine z_goto rfl ?_
                refine z_bret rfl rfl (by decide) ?_
                show zW _ _ _ _ _ _ _ _ _ _
                refine z_if_eqF rfl (by decide) (by decide) ?_
                refine z_pushI (z := 1) rfl rfl ?_
                refine z_iload rfl rfl ?_
                refine z_callSi (As := [_, _]) (le := [some _, some _]) rfl rfl (Nat.le_of_ble_eq_true rfl) (Nat.le_of_ble_eq_true rfl) rfl ?_
                refine z_iload rfl rfl ?_
                refine z_if_ltF rfl (by decide) (by decide) ?_
                refine z_iload rfl rfl ?_
                refine z_pushI (z := 14) rfl rfl ?_
                refine z_icmp_geF rfl (by decide) (by decide) (by decide) ?_
                refine z_iload rfl rfl ?_
                refine z_getS rfl ?_
                refine z_iload rfl rfl ?_
                refine z_sald (j := 1) (n := 14) (v := 0) rfl (by decide) rfl (by decide) (by decide) rfl ?_
                refine z_icmp_lt rfl (by omega) (by decide) (fun h10 => ?_) (fun h10 => ?_)
                · refine z_pushI (z := 0) rfl rfl ?_
                  refine z_bret rfl rfl (by decide) ?_
                  show zW _ _ _ _ _ _ _ _ _ _
                  refine z_if_eqT rfl (by decide) (by decide) ?_
                  refine z_pushI (z := 0) rfl rfl ?_
                  refine z_bret rfl rfl (by decide) ?_
                  show zW _ _ _ _ _ _ _ _ _ _
                  refine z_if_eqT rfl (by decide) (by decide) ?_
                  refine z_iload rfl rfl ?_
                  refine z_iret rfl rfl ?_
                  first | exact KK k hok (by omega) (Or.inl (by omega)) | exact KK k hok (by omega) (Or.inr (fun q => by obtain ⟨⟨q1, q2, q3⟩, q4, q5, q6⟩ := q; omega))
                · refine z_iload rfl rfl ?_
                  refine z_getS rfl ?_
                  refine z_iload rfl rfl ?_
                  refine z_sald (j := 2) (n := 14) (v := 99) rfl (by decide) rfl (by decide) (by decide) rfl ?_
                  refine z_icmp_gt rfl (by omega) (by decide) (fun h11 => ?_) (fun h11 => ?_)
                  · refine z_pushI (z := 0) rfl rfl ?_
                    refine z_bret rfl rfl (by decide) ?_
                    show zW _ _ _ _ _ _ _ _ _ _
                    refine z_if_eqT rfl (by decide) (by decide) ?_
                    refine z_pushI (z := 0) rfl rfl ?_
                    refine z_bret rfl rfl (by decide) ?_
                    show zW _ _ _ _ _ _ _ _ _ _
                    refine z_if_eqT rfl (by decide) (by decide) ?_
                    refine z_iload rfl rfl ?_
                    refine z_iret rfl rfl ?_
                    first | exact KK k hok (by omega) (Or.inl (by omega)) | exact KK k hok (by omega) (Or.inr (fun q => by obtain ⟨⟨q1, q2, q3⟩, q4, q5, q6⟩ := q; omega))
                  · refine z_pushI (z := 1) rfl rfl ?_
                    refine z_goto rfl ?_
                    refine z_bret rfl rfl (by decide) ?_
                    show zW _ _ _ _ _ _ _ _ _ _
                    refine z_if_eqF rfl (by decide) (by decide) ?_
                    refine z_pushI (z := 2) rfl rfl ?_
                    refine z_iload rfl rfl ?_
                    refine z_callSi (As := [_, _]) (le := [some _, some _]) rfl rfl (Nat.le_of_ble_eq_true rfl) (Nat.le_of_ble_eq_true rfl) rfl ?_
                    refine z_iload rfl rfl ?_
                    refine z_if_ltF rfl (by decide) (by decide) ?_
                    refine z_iload rfl rfl ?_
                    refine z_pushI (z := 14) rfl rfl ?_
                    refine z_icmp_geF rfl (by decide) (by decide) (by decide) ?_
                    refine z_iload rfl rfl ?_
                    refine z_getS rfl ?_
                    refine z_iload rfl rfl ?_
                    refine z_sald (j := 1) (n := 14) (v := 0) rfl (by decide) rfl (by decide) (by decide) rfl ?_
                    refine z_icmp_lt rfl (by omega) (by decide) (fun h12 => ?_) (fun h12 => ?_)
                    · refine z_pushI (z := 0) rfl rfl ?_
                      refine z_bret rfl rfl (by decide) ?_
                      show zW _ _ _ _ _ _ _ _ _ _
                      refine z_if_neF rfl (by decide) (by decide) ?_
                      refine z_pushI (z := 0) rfl rfl ?_
                      refine z_bret rfl rfl (by decide) ?_
                      show zW _ _ _ _ _ _ _ _ _ _
                      refine z_if_eqT rfl (by decide) (by decide) ?_
                      refine z_iload rfl rfl ?_
                      refine z_iret rfl rfl ?_
                      first | exact KK k hok (by omega) (Or.inl (by omega)) | exact KK k hok (by omega) (Or.inr (fun q => by obtain ⟨⟨q1, q2, q3⟩, q4, q5, q6⟩ := q; omega))
                    · refine z_iload rfl rfl ?_
                      refine z_getS rfl ?_
                      refine z_iload rfl rfl ?_
                      refine z_sald (j := 2) (n := 14) (v := 99) rfl (by decide) rfl (by decide) (by decide) rfl ?_
                      refine z_icmp_gt rfl (by omega) (by decide) (fun h13 => ?_) (fun h13 => ?_)
                      · refine z_pushI (z := 0) rfl rfl ?_
                        refine z_bret rfl rfl (by decide) ?_
                        show zW _ _ _ _ _ _ _ _ _ _
                        refine z_if_neF rfl (by decide) (by decide) ?_
                        refine z_pushI (z := 0) rfl rfl ?_
                        refine z_bret rfl rfl (by decide) ?_
                        show zW _ _ _ _ _ _ _ _ _ _
                        refine z_if_eqT rfl (by decide) (by decide) ?_
                        refine z_iload rfl rfl ?_
                        refine z_iret rfl rfl ?_
                        first | exact KK k hok (by omega) (Or.inl (by omega)) | exact KK k hok (by omega) (Or.inr (fun q => by obtain ⟨⟨q1, q2, q3⟩, q4, q5, q6⟩ := q; omega))
                      · refine z_pushI (z := 1) rfl rfl ?_
                        refine z_goto rfl ?_
                        refine z_bret rfl rfl (by decide) ?_
                        show zW _ _ _ _ _ _ _ _ _ _
                        refine z_if_neT rfl (by decide) (by decide) ?_
                        refine z_aload rfl rfl ?_
                        refine z_getR (r := 8) rfl rfl (hR _ rm_0_1) ?_
                        refine z_iload rfl rfl ?_
                        refine z_iload rfl rfl ?_
                        refine z_iload rfl rfl ?_
                        refine z_callVi (As := [_, _, _]) (le := [some _, some _, some _, some _, none]) rfl rfl rfl (Nat.le_of_ble_eq_true rfl) (Nat.le_of_ble_eq_true rfl) rfl ?_
                        refine z_aload rfl rfl ?_
                        refine z_getI (v := n + (k : Int)) rfl rfl ((mix_l (by decide)).trans (plS_8 hn8 k)) ?_
                        refine z_istore rfl rfl ?_
                        refine z_aload rfl rfl ?_
                        refine z_dup rfl rfl ?_
                        refine z_getI (v := n + (k : Int)) rfl rfl ((mix_l (by decide)).trans (plS_8 hn8 k)) ?_
                        refine z_pushI (z := 1) rfl rfl ?_
                        refine z_iadd (e := n + (k : Int) + 1) rfl rfl ?_
                        refine z_putI (y := 2) rfl rfl rfl ?_
                        refine z_aload rfl rfl ?_
                        refine z_iload rfl rfl ?_
                        refine z_pushI (z := 0) rfl rfl ?_
                        refine z_iload rfl rfl ?_
                        refine z_callVi (As := [_, _, _]) (le := [some _, some _, some _, some _, none]) rfl rfl rfl (Nat.le_of_ble_eq_true rfl) (Nat.le_of_ble_eq_true rfl) rfl ?_
                        refine z_aload rfl rfl ?_
                        refine z_iload rfl rfl ?_
                        refine z_iload rfl rfl ?_
                        refine z_callVi (As := [_, _]) (le := [some _, some _, some _]) rfl rfl rfl (Nat.le_of_ble_eq_true rfl) (Nat.le_of_ble_eq_true rfl) rfl ?_
                        refine z_iload rfl rfl ?_
                        refine z_if_ltF rfl (by decide) (by decide) ?_
                        refine z_iload rfl rfl ?_
                        refine z_pushI (z := 14) rfl rfl ?_
                        refine z_icmp_ltT rfl (by decide) (by decide) (by decide) ?_
                        refine z_iload rfl rfl ?_
                        refine z_pushI (z := 5) rfl rfl ?_
                        refine z_icmp_geF rfl (by decide) (by decide) (by decide) ?_
                        refine z_aload rfl rfl ?_
                        refine z_iload rfl rfl ?_
                        refine z_callVi (As := [_]) (le := [some _, some _]) rfl rfl rfl (Nat.le_of_ble_eq_true rfl) (Nat.le_of_ble_eq_true rfl) rfl ?_
                        refine z_iload rfl rfl ?_
                        refine z_if_ltF rfl (by omega) (by omega) ?_
                        refine z_iload rfl rfl ?_
                        refine z_aload rfl rfl ?_
                        refine z_getI (v := n + (k : Int) + 1) rfl rfl (zU_e) ?_
                        refine z_icmp_geF rfl (by omega) (by omega) (by omega) ?_
                        refine z_pushI (z := 1) rfl rfl ?_
                        refine z_goto rfl ?_
                        refine z_bret rfl rfl (by decide) ?_
                        show zW _ _ _ _ _ _ _ _ _ _
                        refine z_if_eqF rfl (by decide) (by decide) ?_
                        refine z_iload rfl rfl ?_
                        refine z_pushI (z := 5) rfl rfl ?_
                        refine z_imul (e := (n + (k : Int)) * 5) rfl rfl ?_
                        refine z_iload rfl rfl ?_
                        refine z_iadd (e := (n + (k : Int)) * 5 + 0) rfl rfl ?_
                        refine z_goto rfl ?_
                        refine z_iret rfl rfl ?_
                        show zW _ _ _ _ _ _ _ _ _ _
                        refine z_istore rfl rfl ?_
                        refine z_iload rfl rfl ?_
                        refine z_if_ltF rfl (by omega) (by omega) ?_
                        refine z_aload rfl rfl ?_
                        refine z_getR (r := 9) rfl rfl (hR _ rm_8_1) ?_
                        refine z_iload rfl rfl ?_
                        refine z_iload rfl rfl ?_
                        refine z_iast (e := b (i + 3 * (k : Int))) rfl rfl (by decide) (by omega) rfl ?_
                        refine z_vret rfl rfl ?_
                        show zW _ _ _ _ _ _ _ _ _ _
                        refine z_aload rfl rfl ?_
                        refine z_iload rfl rfl ?_
                        refine z_pushI (z := 1) rfl rfl ?_
                        refine z_iload rfl rfl ?_
                        refine z_callVi (As := [_, _, _]) (le := [some _, some _, some _, some _, none]) rfl rfl rfl (Nat.le_of_ble_eq_true rfl) (Nat.le_of_ble_eq_true rfl) rfl ?_
                        refine z_aload rfl rfl ?_
                        refine z_iload rfl rfl ?_
                        refine z_iload rfl rfl ?_
                        refine z_callVi (As := [_, _]) (le := [some _, some _, some _]) rfl rfl rfl (Nat.le_of_ble_eq_true rfl) (Nat.le_of_ble_eq_true rfl) rfl ?_
                        refine z_iload rfl rfl ?_
                        refine z_if_ltF rfl (by decide) (by decide) ?_
                        refine z_iload rfl rfl ?_
                        refine z_pushI (z := 14) rfl rfl ?_
                        refine z_icmp_ltT rfl (by decide) (by decide) (by decide) ?_
                        refine z_iload rfl rfl ?_
                        refine z_pushI (z := 5) rfl rfl ?_
                        refine z_icmp_geF rfl (by decide) (by decide) (by decide) ?_
                        refine z_aload rfl rfl ?_
                        refine z_iload rfl rfl ?_
                        refine z_callVi (As := [_]) (le := [some _, some _]) rfl rfl rfl (Nat.le_of_ble_eq_true rfl) (Nat.le_of_ble_eq_true rfl) rfl ?_
                        refine z_iload rfl rfl ?_
                        refine z_if_ltF rfl (by omega) (by omega) ?_
                        refine z_iload rfl rfl ?_
                        refine z_aload rfl rfl ?_
                        refine z_getI (v := n + (k : Int) + 1) rfl rfl ((zU_n (by decide)).trans (zU_e)) ?_
                        refine z_icmp_geF rfl (by omega) (by omega) (by omega) ?_
                        refine z_pushI (z := 1) rfl rfl ?_
                        refine z_goto rfl ?_
                        refine z_bret rfl rfl (by decide) ?_
                        show zW _ _ _ _ _ _ _ _ _ _
                        refine z_if_eqF rfl (by decide) (by decide) ?_
                        refine z_iload rfl rfl ?_
                        refine z_pushI (z := 5) rfl rfl ?_
                        refine z_imul (e := (n + (k : Int)) * 5) rfl rfl ?_
                        refine z_iload rfl rfl ?_
                        refine z_iadd (e := (n + (k : Int)) * 5 + 1) rfl rfl ?_
                        refine z_goto rfl ?_
                        refine z_iret rfl rfl ?_
                        show zW _ _ _ _ _ _ _ _ _ _
                        refine z_istore rfl rfl ?_
                        refine z_iload rfl rfl ?_
                        refine z_if_ltF rfl (by omega) (by omega) ?_
                        refine z_aload rfl rfl ?_
                        refine z_getR (r := 9) rfl rfl (hR _ rm_8_1) ?_
                        refine z_iload rfl rfl ?_
                        refine z_iload rfl rfl ?_
                        refine z_iast (e := b (i + 3 * (k : Int) + 1)) rfl rfl (by decide) (by omega) rfl ?_
                        refine z_vret rfl rfl ?_
                        show zW _ _ _ _ _ _ _ _ _ _
                        refine z_aload rfl rfl ?_
                        refine z_iload rfl rfl ?_
                        refine z_pushI (z := 2) rfl rfl ?_
                        refine z_iload rfl rfl ?_
                        refine z_callVi (As := [_, _, _]) (le := [some _, some _, some _, some _, none]) rfl rfl rfl (Nat.le_of_ble_eq_true rfl) (Nat.le_of_ble_eq_true rfl) rfl ?_
                        refine z_aload rfl rfl ?_
                        refine z_iload rfl rfl ?_
                        refine z_iload rfl rfl ?_
                        refine z_callVi (As := [_, _]) (le := [some _, some _, some _]) rfl rfl rfl (Nat.le_of_ble_eq_true rfl) (Nat.le_of_ble_eq_true rfl) rfl ?_
                        refine z_iload rfl rfl ?_
                        refine z_if_ltF rfl (by decide) (by decide) ?_
                        refine z_iload rfl rfl ?_
                        refine z_pushI (z := 14) rfl rfl ?_
                        refine z_icmp_ltT rfl (by decide) (by decide) (by decide) ?_
                        refine z_iload rfl rfl ?_
                        refine z_pushI (z := 5) rfl rfl ?_
                        refine z_icmp_geF rfl (by decide) (by decide) (by decide) ?_
                        refine z_aload rfl rfl ?_
                        refine z_iload rfl rfl ?_
                        refine z_callVi (As := [_]) (le := [some _, some _]) rfl rfl rfl (Nat.le_of_ble_eq_true rfl) (Nat.le_of_ble_eq_true rfl) rfl ?_
                        refine z_iload rfl rfl ?_
                        refine z_if_ltF rfl (by omega) (by omega) ?_
                        refine z_iload rfl rfl ?_
                        refine z_aload rfl rfl ?_
                        refine z_getI (v := n + (k : Int) + 1) rfl rfl ((zU_n (by decide)).trans ((zU_n (by decide)).trans (zU_e))) ?_
                        refine z_icmp_geF rfl (by omega) (by omega) (by omega) ?_
                        refine z_pushI (z := 1) rfl rfl ?_
                        refine z_goto rfl ?_
                        refine z_bret rfl rfl (by decide) ?_
                        show zW _ _ _ _ _ _ _ _ _ _
                        refine z_if_eqF rfl (by decide) (by decide) ?_
                        refine z_iload rfl rfl ?_
                        refine z_pushI (z := 5) rfl rfl ?_
                        refine z_imul (e := (n + (k : Int)) * 5) rfl rfl ?_
                        refine z_iload rfl rfl ?_
                        refine z_iadd (e := (n + (k : Int)) * 5 + 2) rfl rfl ?_
                        refine z_goto rfl ?_
                        refine z_iret rfl rfl ?_
                        show zW _ _ _ _ _ _ _ _ _ _
                        refine z_istore rfl rfl ?_
                        refine z_iload rfl rfl ?_
                        refine z_if_ltF rfl (by omega) (by omega) ?_
                        refine z_aload rfl rfl ?_
                        refine z_getR (r := 9) rfl rfl (hR _ rm_8_1) ?_
                        refine z_iload rfl rfl ?_
                        refine z_iload rfl rfl ?_
                        refine z_iast (e := b (i + 3 * (k : Int) + 2)) rfl rfl (by decide) (by omega) rfl ?_
                        refine z_vret rfl rfl ?_
                        show zW _ _ _ _ _ _ _ _ _ _
                        refine z_aload rfl rfl ?_
                        refine z_iload rfl rfl ?_
                        refine z_pushI (z := 3) rfl rfl ?_
                        refine z_getS rfl ?_
                        refine z_pushI (z := 3) rfl rfl ?_
                        refine z_sald (j := 0) (n := 14) (v := 5) rfl (by decide) rfl (by decide) (by decide) rfl ?_
                        refine z_callVi (As := [_, _, _]) (le := [some _, some _, some _, some _, none]) rfl rfl rfl (Nat.le_of_ble_eq_true rfl) (Nat.le_of_ble_eq_true rfl) rfl ?_
                        refine z_aload rfl rfl ?_
                        refine z_iload rfl rfl ?_
                        refine z_iload rfl rfl ?_
                        refine z_callVi (As := [_, _]) (le := [some _, some _, some _]) rfl rfl rfl (Nat.le_of_ble_eq_true rfl) (Nat.le_of_ble_eq_true rfl) rfl ?_
                        refine z_iload rfl rfl ?_
                        refine z_if_ltF rfl (by decide) (by decide) ?_
                        refine z_iload rfl rfl ?_
                        refine z_pushI (z := 14) rfl rfl ?_
                        refine z_icmp_ltT rfl (by decide) (by decide) (by decide) ?_
                        refine z_iload rfl rfl ?_
                        refine z_pushI (z := 5) rfl rfl ?_
                        refine z_icmp_geF rfl (by decide) (by decide) (by decide) ?_
                        refine z_aload rfl rfl ?_
                        refine z_iload rfl rfl ?_
                        refine z_callVi (As := [_]) (le := [some _, some _]) rfl rfl rfl (Nat.le_of_ble_eq_true rfl) (Nat.le_of_ble_eq_true rfl) rfl ?_
                        refine z_iload rfl rfl ?_
                        refine z_if_ltF rfl (by omega) (by omega) ?_
                        refine z_iload rfl rfl ?_
                        refine z_aload rfl rfl ?_
                        refine z_getI (v := n + (k : Int) + 1) rfl rfl ((zU_n (by decide)).trans ((zU_n (by decide)).trans ((zU_n (by decide)).trans (zU_e)))) ?_
                        refine z_icmp_geF rfl (by omega) (by omega) (by omega) ?_
                        refine z_pushI (z := 1) rfl rfl ?_
                        refine z_goto rfl ?_
                        refine z_bret rfl rfl (by decide) ?_
                        show zW _ _ _ _ _ _ _ _ _ _
                        refine z_if_eqF rfl (by decide) (by decide) ?_
                        refine z_iload rfl rfl ?_
                        refine z_pushI (z := 5) rfl rfl ?_
                        refine z_imul (e := (n + (k : Int)) * 5) rfl rfl ?_
                        refine z_iload rfl rfl ?_
                        refine z_iadd (e := (n + (k : Int)) * 5 + 3) rfl rfl ?_
                        refine z_goto rfl ?_
                        refine z_iret rfl rfl ?_
                        show zW _ _ _ _ _ _ _ _ _ _
                        refine z_istore rfl rfl ?_
                        refine z_iload rfl rfl ?_
                        refine z_if_ltF rfl (by omega) (by omega) ?_
                        refine z_aload rfl rfl ?_
                        refine z_getR (r := 9) rfl rfl (hR _ rm_8_1) ?_
                        refine z_iload rfl rfl ?_
                        refine z_iload rfl rfl ?_
                        refine z_iast (e := 5) rfl rfl (by decide) (by omega) rfl ?_
                        refine z_vret rfl rfl ?_
                        show zW _ _ _ _ _ _ _ _ _ _
                        refine z_aload rfl rfl ?_
                        refine z_iload rfl rfl ?_
                        refine z_pushI (z := 4) rfl rfl ?_
                        refine z_getS rfl ?_
                        refine z_pushI (z := 4) rfl rfl ?_
                        refine z_sald (j := 0) (n := 14) (v := 0) rfl (by decide) rfl (by decide) (by decide) rfl ?_
                        refine z_callVi (As := [_, _, _]) (le := [some _, some _, some _, some _, none]) rfl rfl rfl (Nat.le_of_ble_eq_true rfl) (Nat.le_of_ble_eq_true rfl) rfl ?_
                        refine z_aload rfl rfl ?_
                        refine z_iload rfl rfl ?_
                        refine z_iload rfl rfl ?_
                        refine z_callVi (As := [_, _]) (le := [some _, some _, some _]) rfl rfl rfl (Nat.le_of_ble_eq_true rfl) (Nat.le_of_ble_eq_true rfl) rfl ?_
                        refine z_iload rfl rfl ?_
                        refine z_if_ltF rfl (by decide) (by decide) ?_
                        refine z_iload rfl rfl ?_
                        refine z_pushI (z := 14) rfl rfl ?_
                        refine z_icmp_ltT rfl (by decide) (by decide) (by decide) ?_
                        refine z_iload rfl rfl ?_
                        refine z_pushI (z := 5) rfl rfl ?_
                        refine z_icmp_geF rfl (by decide) (by decide) (by decide) ?_
                        refine z_aload rfl rfl ?_
                        refine z_iload rfl rfl ?_
                        refine z_callVi (As := [_]) (le := [some _, some _]) rfl rfl rfl (Nat.le_of_ble_eq_true rfl) (Nat.le_of_ble_eq_true rfl) rfl ?_
                        refine z_iload rfl rfl ?_
                        refine z_if_ltF rfl (by omega) (by omega) ?_
                        refine z_iload rfl rfl ?_
                        refine z_aload rfl rfl ?_
                        refine z_getI (v := n + (k : Int) + 1) rfl rfl ((zU_n (by decide)).trans ((zU_n (by decide)).trans ((zU_n (by decide)).trans ((zU_n (by decide)).trans (zU_e))))) ?_
                        refine z_icmp_geF rfl (by omega) (by omega) (by omega) ?_
                        refine z_pushI (z := 1) rfl rfl ?_
                        refine z_goto rfl ?_
                        refine z_bret rfl rfl (by decide) ?_
                        show zW _ _ _ _ _ _ _ _ _ _
                        refine z_if_eqF rfl (by decide) (by decide) ?_
                        refine z_iload rfl rfl ?_
                        refine z_pushI (z := 5) rfl rfl ?_
                        refine z_imul (e := (n + (k : Int)) * 5) rfl rfl ?_
                        refine z_iload rfl rfl ?_
                        refine z_iadd (e := (n + (k : Int)) * 5 + 4) rfl rfl ?_
                        refine z_goto rfl ?_
                        refine z_iret rfl rfl ?_
                        show zW _ _ _ _ _ _ _ _ _ _
                        refine z_istore rfl rfl ?_
                        refine z_iload rfl rfl ?_
                        refine z_if_ltF rfl (by omega) (by omega) ?_
                        refine z_aload rfl rfl ?_
                        refine z_getR (r := 9) rfl rfl (hR _ rm_8_1) ?_
                        refine z_iload rfl rfl ?_
                        refine z_iload rfl rfl ?_
                        refine z_iast (e := 0) rfl rfl (by decide) (by omega) rfl ?_
                        refine z_vret rfl rfl ?_
                        show zW _ _ _ _ _ _ _ _ _ _
                        refine z_iload rfl rfl ?_
                        refine z_iret rfl rfl ?_
                        show zW _ _ _ _ _ _ _ _ _ _
                        refine z_pop rfl rfl ?_
                        refine z_pushI (z := 1) rfl rfl ?_
                        refine z_bret rfl rfl (by decide) ?_
                        show zW _ _ _ _ _ _ _ _ _ _
                        refine z_if_eqF rfl (by decide) (by decide) ?_
                        refine z_iinc (c := 1) (e := (k : Int) + 1) rfl rfl rfl rfl rfl ?_
                        refine z_goto rfl ?_
                        show zW _ _ _ _ [some (.ref 0), some (zi s), some (zi i), some (zi c), some (.ref (38 + 2 * s.toNat)), some (zi ((k : Int) + 1))] [] _ _ _ _
                        have hg := ih (k + 1) (by omega) (by omega) (fun t ht => by by_cases e : t = k; (subst e; exact ⟨⟨by omega, by omega, by omega⟩, ⟨by omega, by omega⟩, ⟨by omega, by omega⟩, by omega, by omega⟩); exact hok t (by omega))
                        rw [show plS n b i J (k + 1) = plA (n + k) (plS n b i J k) (b (i + 3 * k)) (b (i + 3 * k + 1)) (b (i + 3 * k + 2)) from rfl, plA_l] at hg
                        exact hg
          · refine z_pushI (z := 0) rfl rfl ?_
            refine z_bret rfl rfl (by decide) ?_
            show zW _ _ _ _ _ _ _ _ _ _
            refine z_if_eqT rfl (by decide) (by decide) ?_
            refine z_iload rfl rfl ?_
            refine z_iret rfl rfl ?_
            first | exact KK k hok (by omega) (Or.inl (by omega)) | exact KK k hok (by omega) (Or.inr (fun q => by obtain ⟨⟨q1, q2, q3⟩, q4, q5, q6⟩ := q; omega))
theorem placesR_z {X : Nat × (Nat → Int32)} {d : Nat} {J M : zA} {R : zR} {P : zP} {s i c n z : Int} {b : Int → Int} (hR : zRoR R) (hs : 0 ≤ s ∧ s < 6) (hi : -2147483648 ≤ i ∧ i < 2147483648) (hc : 1 ≤ c ∧ c ≤ 8) (hn : 0 ≤ n ∧ n ≤ 8) (hzr : 0 ≤ z ∧ z ≤ 60) (hbr : ∀ y, 0 ≤ y → y < z → -128 ≤ b y ∧ b y ≤ 127) (hn5 : J 50 1 = n) (hz : J 84 s = z) (hb : ∀ y, 0 ≤ y → y < z → M 85 (60 * s + y) = b y) {K : Nat} (hok : ∀ t, t < K → pOk n b i z t) (hKc : (K : Int) ≤ c) (hend : (K : Int) = c ∨ ¬ pOk n b i z K) (KK : P (some (zi (K : Int))) (mix (plS n b i J K) (plS n b i J K)) M R) : ∀ (j k : Nat) (e5 e6 e7 : Option Value), k + j = K → k ≤ K → zW X (d + 6) 154 58 [some (.ref 50), some (zi s), some (zi i), some (zi c), some (zi (k : Int)), e5, e6, e7] [] (mix (plS n b i J K) (plS n b i J k)) M R P := by
  intro j
  induction j with
  | zero =>
    intro k e5 e6 e7 hk hkK
    obtain rfl : k = K := by omega
    by_cases hkc : (k : Int) = c
    · refine z_iload rfl rfl ?_
      refine z_iload rfl rfl ?_
      refine z_icmp_geT rfl (by omega) (by omega) (by omega) ?_
      refine z_iload rfl rfl ?_
      refine z_iret rfl rfl ?_
      subst hkc
      exact KK
    · have hno : ¬ pOk n b i z k := by
        rcases hend with h | h
        · exact absurd h hkc
        · exact h
      have hnk : n + (k : Int) ≤ 8 := by
        by_cases q0 : k = 0
        · omega
        · have q := (hok (k - 1) (by omega)).1
          omega
      show zW _ _ _ _ [some (.ref 50), some (zi s), some (zi i), some (zi c), some (zi (k : Int)), e5, e6, e7] _ _ _ _ _
      refine z_iload rfl rfl ?_
      refine z_iload rfl rfl ?_
      refine z_icmp_geF rfl (by omega) (by omega) (by omega) ?_
      refine z_iload rfl rfl ?_
      refine z_i2l rfl (by omega) ?_
      refine z_pushI (z := 3) rfl rfl ?_
      refine z_iload rfl rfl ?_
      refine z_imul (e := 3 * (k : Int)) rfl rfl ?_
      refine z_i2l rfl (by omega) ?_
      refine z_ladd (e := i + 3 * (k : Int)) rfl rfl ?_
      refine z_lstore rfl rfl ?_
      refine z_lload rfl rfl ?_
      refine z_pushL (z := 0) rfl rfl ?_
      refine z_lcmp_lt rfl rfl (by omega) (by omega) (fun h1 => ?_) (fun h1 => ?_)
      · refine z_iload rfl rfl ?_
        refine z_iret rfl rfl ?_
        exact KK
      · refine z_lload rfl rfl ?_
        refine z_pushL (z := 2) rfl rfl ?_
        refine z_ladd (e := i + 3 * (k : Int) + 2) rfl rfl ?_
        refine z_aload rfl rfl ?_
        refine z_getR (r := 84) rfl rfl (hR _ rm_50_59 (by decide)) ?_
        refine z_iload rfl rfl ?_
        refine z_iald (v := z) rfl rfl (by decide) (by omega) ((mix_h (by decide)).trans ((plS_y (by decide) k).trans hz)) ?_
        refine z_i2l rfl (by omega) ?_
        refine z_lcmp_ge rfl rfl (by omega) (by omega) (fun h2 => ?_) (fun h2 => ?_)
        · refine z_iload rfl rfl ?_
          refine z_iret rfl rfl ?_
          exact KK
        · refine z_aload rfl rfl ?_
          refine z_getI (v := n + (k : Int)) rfl rfl ((mix_h (by decide)).trans (plS_50 hn5 k)) ?_
          refine z_pushI (z := 8) rfl rfl ?_
          refine z_icmp_ne rfl (by omega) (by decide) (fun h3 => ?_) (fun h3 => ?_)
          · refine z_pushI (z := 60) rfl rfl ?_
            refine z_iload rfl rfl ?_
            refine z_imul (e := 60 * s) rfl rfl ?_
            refine z_lload rfl rfl ?_
            refine z_l2i rfl ?_
            refine z_iadd (e := 60 * s + (i + 3 * (k : Int))) rfl rfl ?_
            refine z_istore rfl rfl ?_
            refine z_aload rfl rfl ?_
            refine z_getR (r := 85) rfl rfl (hR _ rm_50_60 (by decide)) ?_
            refine z_iload rfl rfl ?_
            have q4 := hbr (i + 3 * (k : Int)) (by omega) (by omega)
            refine z_lald (v := b (i + 3 * (k : Int))) rfl rfl (by decide) (by omega) ((by rw [show 60 * s + (i + 3 * (k : Int)) = 60 * s + (i + 3 * (k : Int)) by omega]; exact hb _ (by omega) (by omega))) ?_
            refine z_l2i rfl ?_
            refine z_pushI (z := 0) rfl rfl ?_
            refine z_pushI (z := 99) rfl rfl ?_
            refine z_callSi (As := [_, _, _]) (le := [some _, some _, some _]) rfl rfl (Nat.le_of_ble_eq_true rfl) (Nat.le_of_ble_eq_true rfl) rfl ?_
            refine z_iload rfl rfl ?_
            refine z_iload rfl rfl ?_
            refine z_icmp_lt rfl (by omega) (by decide) (fun h5 => ?_) (fun h5 => ?_)
            · refine z_pushI (z := 0) rfl rfl ?_
              refine z_bret rfl rfl (by decide) ?_
              show zW _ _ _ _ _ _ _ _ _ _
              refine z_if_eqT rfl (by decide) (by decide) ?_
              refine z_iload rfl rfl ?_
              refine z_iret rfl rfl ?_
              exact KK
            · refine z_iload rfl rfl ?_
              refine z_iload rfl rfl ?_
              refine z_icmp_gt rfl (by omega) (by decide) (fun h6 => ?_) (fun h6 => ?_)
              · refine z_pushI (z := 0) rfl rfl ?_
                refine z_bret rfl rfl (by decide) ?_
                show zW _ _ _ _ _ _ _ _ _ _
                refine z_if_eqT rfl (by decide) (by decide) ?_
                refine z_iload rfl rfl ?_
                refine z_iret rfl rfl ?_
                exact KK
              · refine z_pushI (z := 1) rfl rfl ?_
                refine z_goto rfl ?_
                refine z_bret rfl rfl (by decide) ?_
                show zW _ _ _ _ _ _ _ _ _ _
                refine z_if_eqF rfl (by decide) (by decide) ?_
                refine z_aload rfl rfl ?_
                refine z_getR (r := 85) rfl rfl (hR _ rm_50_60 (by decide)) ?_
                refine z_iload rfl rfl ?_
                refine z_pushI (z := 1) rfl rfl ?_
                refine z_iadd (e := 60 * s + (i + 3 * (k : Int)) + 1) rfl rfl ?_
                have q7 := hbr (i + 3 * (k : Int) + 1) (by omega) (by omega)
                refine z_lald (v := b (i + 3 * (k : Int) + 1)) rfl rfl (by decide) (by omega) ((by rw [show 60 * s + (i + 3 * (k : Int)) + 1 = 60 * s + (i + 3 * (k : Int) + 1) by omega]; exact hb _ (by omega) (by omega))) ?_
                refine z_l2i rfl ?_
                refine z_pushI (z := 0) rfl rfl ?_
                refine z_pushI (z := 99) rfl rfl ?_
                refine z_callSi (As := [_, _, _]) (le := [some _, some _, some _]) rfl rfl (Nat.le_of_ble_eq_true rfl) (Nat.le_of_ble_eq_true rfl) rfl ?_
                refine z_iload rfl rfl ?_
                refine z_iload rfl rfl ?_
                refine z_icmp_lt rfl (by omega) (by decide) (fun h8 => ?_) (fun h8 => ?_)
                · refine z_pushI (z := 0) rfl rfl ?_
                  refine z_bret rfl rfl (by decide) ?_
                  show zW _ _ _ _ _ _ _ _ _ _
                  refine z_if_eqT rfl (by decide) (by decide) ?_
                  refine z_iload rfl rfl ?_
                  refine z_iret rfl rfl ?_
                  exact KK
                · refine z_iload rfl rfl ?_
                  refine z_iload rfl rfl ?_
                  refine z_icmp_gt rfl (by omega) (by decide) (fun h9 => ?_) (fun h9 => ?_)
                  · refine z_pushI (z := 0) rfl rfl ?_
                    refine z_bret rfl rfl (by decide) ?_
                    show zW _ _ _ _ _ _ _ _ _ _
                    refine z_if_eqT rfl (by decide) (by decide) ?_
                    refine z_iload rfl rfl ?_
                    refine z_iret rfl rfl ?_
                    exact KK
                  · refine z_pushI (z := 1) rfl rfl ?_
                    refine z_goto rfl ?_
                    refine z_bret rfl rfl (by decide) ?_
                    show zW _ _ _ _ _ _ _ _ _ _
                    refine z_if_eqF rfl (by decide) (by decide) ?_
                    refine z_aload rfl rfl ?_
                    refine z_getR (r := 85) rfl rfl (hR _ rm_50_60 (by decide)) ?_
                    refine z_iload rfl rfl ?_
                    refine z_pushI (z := 2) rfl rfl ?_
                    refine z_iadd (e := 60 * s + (i + 3 * (k : Int)) + 2) rfl rfl ?_
                    have q10 := hbr (i + 3 * (k : Int) + 2) (by omega) (by omega)
                    refine z_lald (v := b (i + 3 * (k : Int) + 2)) rfl rfl (by decide) (by omega) ((by rw [show 60 * s + (i + 3 * (k : Int)) + 2 = 60 * s + (i + 3 * (k : Int) + 2) by omega]; exact hb _ (by omega) (by omega))) ?_
                    refine z_l2i rfl ?_
                    refine z_pushI (z := 0) rfl rfl ?_
                    refine z_pushI (z := 99) rfl rfl ?_
                    refine z_callSi (As := [_, _, _]) (le := [some _, some _, some _]) rfl rfl (Nat.le_of_ble_eq_true rfl) (Nat.le_of_ble_eq_true rfl) rfl ?_
                    refine z_iload rfl rfl ?_
                    refine z_iload rfl rfl ?_
                    refine z_icmp_lt rfl (by omega) (by decide) (fun h11 => ?_) (fun h11 => ?_)
                    · refine z_pushI (z := 0) rfl rfl ?_
                      refine z_bret rfl rfl (by decide) ?_
                      show zW _ _ _ _ _ _ _ _ _ _
                      refine z_if_neF rfl (by decide) (by decide) ?_
                      refine z_iload rfl rfl ?_
                      refine z_iret rfl rfl ?_
                      exact KK
                    · refine z_iload rfl rfl ?_
                      refine z_iload rfl rfl ?_
                      refine z_icmp_gt rfl (by omega) (by decide) (fun h12 => ?_) (fun h12 => ?_)
                      · refine z_pushI (z := 0) rfl rfl ?_
                        refine z_bret rfl rfl (by decide) ?_
                        show zW _ _ _ _ _ _ _ _ _ _
                        refine z_if_neF rfl (by decide) (by decide) ?_
                        refine z_iload rfl rfl ?_
                        refine z_iret rfl rfl ?_
                        exact KK
                      · refine z_pushI (z := 1) rfl rfl ?_
                        refine z_goto rfl ?_
                        refine z_bret rfl rfl (by decide) ?_
                        show zW _ _ _ _ _ _ _ _ _ _
                        refine z_if_neT rfl (by decide) (by decide) ?_
                        refine z_aload rfl rfl ?_
                        refine z_aload rfl rfl ?_
                        refine z_getR (r := 85) rfl rfl (hR _ rm_50_60 (by decide)) ?_
                        refine z_iload rfl rfl ?_
                        have q13 := hbr (i + 3 * (k : Int)) (by omega) (by omega)
                        refine z_lald (v := b (i + 3 * (k : Int))) rfl rfl (by decide) (by omega) ((by rw [show 60 * s + (i + 3 * (k : Int)) = 60 * s + (i + 3 * (k : Int)) by omega]; exact hb _ (by omega) (by omega))) ?_
                        refine z_l2i rfl ?_
                        refine z_aload rfl rfl ?_
                        refine z_getR (r := 85) rfl rfl (hR _ rm_50_60 (by decide)) ?_
                        refine z_iload rfl rfl ?_
                        refine z_pushI (z := 1) rfl rfl ?_
                        refine z_iadd (e := 60 * s + (i + 3 * (k : Int)) + 1) rfl rfl ?_
                        have q14 := hbr (i + 3 * (k : Int) + 1) (by omega) (by omega)
                        refine z_lald (v := b (i + 3 * (k : Int) + 1)) rfl rfl (by decide) (by omega) ((by rw [show 60 * s + (i + 3 * (k : Int)) + 1 = 60 * s + (i + 3 * (k : Int) + 1) by omega]; exact hb _ (by omega) (by omega))) ?_
                        refine z_l2i rfl ?_
                        refine z_aload rfl rfl ?_
                        refine z_getR (r := 85) rfl rfl (hR _ rm_50_60 (by decide)) ?_
                        refine z_iload rfl rfl ?_
                        refine z_pushI (z := 2) rfl rfl ?_
                        refine z_iadd (e := 60 * s + (i + 3 * (k : Int)) + 2) rfl rfl ?_
                        have q15 := hbr (i + 3 * (k : Int) + 2) (by omega) (by omega)
                        refine z_lald (v := b (i + 3 * (k : Int) + 2)) rfl rfl (by decide) (by omega) ((by rw [show 60 * s + (i + 3 * (k : Int)) + 2 = 60 * s + (i + 3 * (k : Int) + 2) by omega]; exact hb _ (by omega) (by omega))) ?_
                        refine z_l2i rfl ?_
                        refine z_callVi (As := [_, _, _]) (le := [some _, some _, some _, some _]) rfl rfl rfl (Nat.le_of_ble_eq_true rfl) (Nat.le_of_ble_eq_true rfl) rfl ?_
                        refine z_aload rfl rfl ?_
                        refine z_getR (r := 51) rfl rfl (hR _ rm_50_2 (by decide)) ?_
                        refine z_aload rfl rfl ?_
                        refine z_getI (v := n + (k : Int)) rfl rfl ((mix_h (by decide)).trans (plS_50 hn5 k)) ?_
                        refine z_iload rfl rfl ?_
                        refine z_iast (e := b (i + 3 * (k : Int))) rfl rfl (by decide) (by omega) rfl ?_
                        refine z_aload rfl rfl ?_
                        refine z_getR (r := 52) rfl rfl (hR _ rm_50_3 (by decide)) ?_
                        refine z_aload rfl rfl ?_
                        refine z_getI (v := n + (k : Int)) rfl rfl ((zU_n (by decide)).trans ((mix_h (by decide)).trans (plS_50 hn5 k))) ?_
                        refine z_iload rfl rfl ?_
                        refine z_iast (e := b (i + 3 * (k : Int) + 1)) rfl rfl (by decide) (by omega) rfl ?_
                        refine z_aload rfl rfl ?_
                        refine z_getR (r := 53) rfl rfl (hR _ rm_50_4 (by decide)) ?_
                        refine z_aload rfl rfl ?_
                        refine z_getI (v := n + (k : Int)) rfl rfl ((zU_n (by decide)).trans ((zU_n (by decide)).trans ((mix_h (by decide)).trans (plS_50 hn5 k)))) ?_
                        refine z_iload rfl rfl ?_
                        refine z_iast (e := b (i + 3 * (k : Int) + 2)) rfl rfl (by decide) (by omega) rfl ?_
                        refine z_aload rfl rfl ?_
                        refine z_getR (r := 54) rfl rfl (hR _ rm_50_5 (by decide)) ?_
                        refine z_aload rfl rfl ?_
                        refine z_getI (v := n + (k : Int)) rfl rfl ((zU_n (by decide)).trans ((zU_n (by decide)).trans ((zU_n (by decide)).trans ((mix_h (by decide)).trans (plS_50 hn5 k))))) ?_
                        refine z_pushI (z := 5) rfl rfl ?_
                        refine z_iast (e := 5) rfl rfl (by decide) (by omega) rfl ?_
                        refine z_aload rfl rfl ?_
                        refine z_getR (r := 55) rfl rfl (hR _ rm_50_6 (by decide)) ?_
                        refine z_aload rfl rfl ?_
                        refine z_getI (v := n + (k : Int)) rfl rfl ((zU_n (by decide)).trans ((zU_n (by decide)).trans ((zU_n (by decide)).trans ((zU_n (by decide)).trans ((mix_h (by decide)).trans (plS_50 hn5 k)))))) ?_
                        refine z_pushI (z := 0) rfl rfl ?_
                        refine z_iast (e := 0) rfl rfl (by decide) (by omega) rfl ?_
                        refine z_aload rfl rfl ?_
                        refine z_getR (r := 75) rfl rfl (hR _ rm_50_42 (by decide)) ?_
                        refine z_aload rfl rfl ?_
                        refine z_getI (v := n + (k : Int)) rfl rfl ((zU_n (by decide)).trans ((zU_n (by decide)).trans ((zU_n (by decide)).trans ((zU_n (by decide)).trans ((zU_n (by decide)).trans ((mix_h (by decide)).trans (plS_50 hn5 k))))))) ?_
                        refine z_pushI (z := 0) rfl rfl ?_
                        refine z_iast (e := 0) rfl rfl (by decide) (by omega) rfl ?_
                        refine z_aload rfl rfl ?_
                        refine z_getR (r := 76) rfl rfl (hR _ rm_50_43 (by decide)) ?_
                        refine z_aload rfl rfl ?_
                        refine z_getI (v := n + (k : Int)) rfl rfl ((zU_n (by decide)).trans ((zU_n (by decide)).trans ((zU_n (by decide)).trans ((zU_n (by decide)).trans ((zU_n (by decide)).trans ((zU_n (by decide)).trans ((mix_h (by decide)).trans (plS_50 hn5 k)))))))) ?_
                        refine z_pushI (z := 0) rfl rfl ?_
                        refine z_iast (e := 0) rfl rfl (by decide) (by omega) rfl ?_
                        refine z_aload rfl rfl ?_
                        refine z_dup rfl rfl ?_
                        refine z_getI (v := n + (k : Int)) rfl rfl ((zU_n (by decide)).trans ((zU_n (by decide)).trans ((zU_n (by decide)).trans ((zU_n (by decide)).trans ((zU_n (by decide)).trans ((zU_n (by decide)).trans ((zU_n (by decide)).trans ((mix_h (by decide)).trans (plS_50 hn5 k))))))))) ?_
                        refine z_pushI (z := 1) rfl rfl ?_
                        refine z_iadd (e := n + (k : Int) + 1) rfl rfl ?_
                        refine z_putI (y := 1) rfl rfl rfl ?_
                        refine z_aload rfl rfl ?_
                        refine z_getI (v := n + (k : Int) + 1) rfl rfl (zU_e) ?_
                        refine z_pushI (z := 1) rfl rfl ?_
                        refine z_isub (e := n + (k : Int) + 1 - 1) rfl rfl ?_
                        refine z_iret rfl rfl ?_
                        show zW _ _ _ _ _ _ _ _ _ _
                        refine z_pop rfl rfl ?_
                        refine z_iinc (c := 1) (e := (k : Int) + 1) rfl rfl rfl rfl rfl ?_
                        refine z_goto rfl ?_
                        show zW _ _ _ _ [some (.ref 50), some (zi s), some (zi i), some (zi c), some (zi ((k : Int) + 1)), some (zl (i + 3 * (k : Int))), none, some (zi (60 * s + (i + 3 * (k : Int))))] [] _ _ _ _
                        exfalso
                        omega
          · refine z_iload rfl rfl ?_
            refine z_iret rfl rfl ?_
            exact KK
  | succ j ih =>
    intro k e5 e6 e7 hk hkK
    obtain ⟨⟨q1, q2, q3⟩, q4, q5, q6⟩ := hok k (by omega)
    show zW _ _ _ _ [some (.ref 50), some (zi s), some (zi i), some (zi c), some (zi (k : Int)), e5, e6, e7] _ _ _ _ _
    refine z_iload rfl rfl ?_
    refine z_iload rfl rfl ?_
    refine z_icmp_geF rfl (by omega) (by omega) (by omega) ?_
    refine z_iload rfl rfl ?_
    refine z_i2l rfl (by omega) ?_
    refine z_pushI (z := 3) rfl rfl ?_
    refine z_iload rfl rfl ?_
    refine z_imul (e := 3 * (k : Int)) rfl rfl ?_
    refine z_i2l rfl (by omega) ?_
    refine z_ladd (e := i + 3 * (k : Int)) rfl rfl ?_
    refine z_lstore rfl rfl ?_
    refine z_lload rfl rfl ?_
    refine z_pushL (z := 0) rfl rfl ?_
    refine z_lcmp_lt rfl rfl (by omega) (by omega) (fun h1 => ?_) (fun h1 => ?_)
    · refine z_iload rfl rfl ?_
      refine z_iret rfl rfl ?_
      exfalso
      omega
    · refine z_lload rfl rfl ?_
      refine z_pushL (z := 2) rfl rfl ?_
      refine z_ladd (e := i + 3 * (k : Int) + 2) rfl rfl ?_
      refine z_aload rfl rfl ?_
      refine z_getR (r := 84) rfl rfl (hR _ rm_50_59 (by decide)) ?_
      refine z_iload rfl rfl ?_
      refine z_iald (v := z) rfl rfl (by decide) (by omega) ((mix_h (by decide)).trans ((plS_y (by decide) k).trans hz)) ?_
      refine z_i2l rfl (by omega) ?_
      refine z_lcmp_ge rfl rfl (by omega) (by omega) (fun h2 => ?_) (fun h2 => ?_)
      · refine z_iload rfl rfl ?_
        refine z_iret rfl rfl ?_
        exfalso
        omega
      · refine z_aload rfl rfl ?_
        refine z_getI (v := n + (k : Int)) rfl rfl ((mix_h (by decide)).trans (plS_50 hn5 k)) ?_
        refine z_pushI (z := 8) rfl rfl ?_
        refine z_icmp_neT rfl (by omega) (by decide) (by omega) ?_
        refine z_pushI (z := 60) rfl rfl ?_
        refine z_iload rfl rfl ?_
        refine z_imul (e := 60 * s) rfl rfl ?_
        refine z_lload rfl rfl ?_
        refine z_l2i rfl ?_
        refine z_iadd (e := 60 * s + (i + 3 * (k : Int))) rfl rfl ?_
        refine z_istore rfl rfl ?_
        refine z_aload rfl rfl ?_
        refine z_getR (r := 85) rfl rfl (hR _ rm_50_60 (by decide)) ?_
        refine z_iload rfl rfl ?_
        have q3 := hbr (i + 3 * (k : Int)) (by omega) (by omega)
        refine z_lald (v := b (i + 3 * (k : Int))) rfl rfl (by decide) (by omega) ((by rw [show 60 * s + (i + 3 * (k : Int)) = 60 * s + (i + 3 * (k : Int)) by omega]; exact hb _ (by omega) (by omega))) ?_
        refine z_l2i rfl ?_
        refine z_pushI (z := 0) rfl rfl ?_
        refine z_pushI (z := 99) rfl rfl ?_
        refine z_callSi (As := [_, _, _]) (le := [some _, some _, some _]) rfl rfl (Nat.le_of_ble_eq_true rfl) (Nat.le_of_ble_eq_true rfl) rfl ?_
        refine z_iload rfl rfl ?_
        refine z_iload rfl rfl ?_
        refine z_icmp_ltF rfl (by omega) (by decide) (by omega) ?_
        refine z_iload rfl rfl ?_
        refine z_iload rfl rfl ?_
        refine z_icmp_gtF rfl (by omega) (by decide) (by omega) ?_
        refine z_pushI (z := 1) rfl rfl ?_
        refine z_goto rfl ?_
        refine z_bret rfl rfl (by decide) ?_
        show zW _ _ _ _ _ _ _ _ _ _
        refine z_if_eqF rfl (by decide) (by decide) ?_
        refine z_aload rfl rfl ?_
        refine z_getR (r := 85) rfl rfl (hR _ rm_50_60 (by decide)) ?_
        refine z_iload rfl rfl ?_
        refine z_pushI (z := 1) rfl rfl ?_
        refine z_iadd (e := 60 * s + (i + 3 * (k : Int)) + 1) rfl rfl ?_
        have q4 := hbr (i + 3 * (k : Int) + 1) (by omega) (by omega)
        refine z_lald (v := b (i + 3 * (k : Int) + 1)) rfl rfl (by decide) (by omega) ((by rw [show 60 * s + (i + 3 * (k : Int)) + 1 = 60 * s + (i + 3 * (k : Int) + 1) by omega]; exact hb _ (by omega) (by omega))) ?_
        refine z_l2i rfl ?_
        refine z_pushI (z := 0) rfl rfl ?_
        refine z_pushI (z := 99) rfl rfl ?_
        refine z_callSi (As := [_, _, _]) (le := [some _, some _, some _]) rfl rfl (Nat.le_of_ble_eq_true rfl) (Nat.le_of_ble_eq_true rfl) rfl ?_
        refine z_iload rfl rfl ?_
        refine z_iload rfl rfl ?_
        refine z_icmp_ltF rfl (by omega) (by decide) (by omega) ?_
        refine z_iload rfl rfl ?_
        refine z_iload rfl rfl ?_
        refine z_icmp_gtF rfl (by omega) (by decide) (by omega) ?_
        refine z_pushI (z := 1) rfl rfl ?_
        refine z_goto rfl ?_
        refine z_bret rfl rfl (by decide) ?_
        show zW _ _ _ _ _ _ _ _ _ _
        refine z_if_eqF rfl (by decide) (by decide) ?_
        refine z_aload rfl rfl ?_
        refine z_getR (r := 85) rfl rfl (hR _ rm_50_60 (by decide)) ?_
        refine z_iload rfl rfl ?_
        refine z_pushI (z := 2) rfl rfl ?_
        refine z_iadd (e := 60 * s + (i + 3 * (k : Int)) + 2) rfl rfl ?_
        have q5 := hbr (i + 3 * (k : Int) + 2) (by omega) (by omega)
        refine z_lald (v := b (i + 3 * (k : Int) + 2)) rfl rfl (by decide) (by omega) ((by rw [show 60 * s + (i + 3 * (k : Int)) + 2 = 60 * s + (i + 3 * (k : Int) + 2) by omega]; exact hb _ (by omega) (by omega))) ?_
        refine z_l2i rfl ?_
        refine z_pushI (z := 0) rfl rfl ?_
        refine z_pushI (z := 99) rfl rfl ?_
        refine z_callSi (As := [_, _, _]) (le := [some _, some _, some _]) rfl rfl (Nat.le_of_ble_eq_true rfl) (Nat.le_of_ble_eq_true rfl) rfl ?_
        refine z_iload rfl rfl ?_
        refine z_iload rfl rfl ?_
        refine z_icmp_ltF rfl (by omega) (by decide) (by omega) ?_
        refine z_iload rfl rfl ?_
        refine z_iload rfl rfl ?_
        refine z_icmp_gtF rfl (by omega) (by decide) (by omega) ?_
        refine z_pushI (z := 1) rfl rfl ?_
        refine z_goto rfl ?_
        refine z_bret rfl rfl (by decide) ?_
        show zW _ _ _ _ _ _ _ _ _ _
        refine z_if_neT rfl (by decide) (by decide) ?_
        refine z_aload rfl rfl ?_
        refine z_aload rfl rfl ?_
        refine z_getR (r := 85) rfl rfl (hR _ rm_50_60 (by decide)) ?_
        refine z_iload rfl rfl ?_
        have q6 := hbr (i + 3 * (k : Int)) (by omega) (by omega)
        refine z_lald (v := b (i + 3 * (k : Int))) rfl rfl (by decide) (by omega) ((by rw [show 60 * s + (i + 3 * (k : Int)) = 60 * s + (i + 3 * (k : Int)) by omega]; exact hb _ (by omega) (by omega))) ?_
        refine z_l2i rfl ?_
        refine z_aload rfl rfl ?_
        refine z_getR (r := 85) rfl rfl (hR _ rm_50_60 (by decide)) ?_
        refine z_iload rfl rfl ?_
        refine z_pushI (z := 1) rfl rfl ?_
        refine z_iadd (e := 60 * s + (i + 3 * (k : Int)) + 1) rfl rfl ?_
        have q7 := hbr (i + 3 * (k : Int) + 1) (by omega) (by omega)
        refine z_lald (v := b (i + 3 * (k : Int) + 1)) rfl rfl (by decide) (by omega) ((by rw [show 60 * s + (i + 3 * (k : Int)) + 1 = 60 * s + (i + 3 * (k : Int) + 1) by omega]; exact hb _ (by omega) (by omega))) ?_
        refine z_l2i rfl ?_
        refine z_aload rfl rfl ?_
        refine z_getR (r := 85) rfl rfl (hR _ rm_50_60 (by decide)) ?_
        refine z_iload rfl rfl ?_
        refine z_pushI (z := 2) rfl rfl ?_
        refine z_iadd (e := 60 * s + (i + 3 * (k : Int)) + 2) rfl rfl ?_
        have q8 := hbr (i + 3 * (k : Int) + 2) (by omega) (by omega)
        refine z_lald (v := b (i + 3 * (k : Int) + 2)) rfl rfl (by decide) (by omega) ((by rw [show 60 * s + (i + 3 * (k : Int)) + 2 = 60 * s + (i + 3 * (k : Int) + 2) by omega]; exact hb _ (by omega) (by omega))) ?_
        refine z_l2i rfl ?_
        refine z_callVi (As := [_, _, _]) (le := [some _, some _, some _, some _]) rfl rfl rfl (Nat.le_of_ble_eq_true rfl) (Nat.le_of_ble_eq_true rfl) rfl ?_
        refine z_aload rfl rfl ?_
        refine z_getR (r := 51) rfl rfl (hR _ rm_50_2 (by decide)) ?_
        refine z_aload rfl rfl ?_
        refine z_getI (v := n + (k : Int)) rfl rfl ((mix_h (by decide)).trans (plS_50 hn5 k)) ?_
        refine z_iload rfl rfl ?_
        refine z_iast (e := b (i + 3 * (k : Int))) rfl rfl (by decide) (by omega) rfl ?_
        refine z_aload rfl rfl ?_
        refine z_getR (r := 52) rfl rfl (hR _ rm_50_3 (by decide)) ?_
        refine z_aload rfl rfl ?_
        refine z_getI (v := n + (k : Int)) rfl rfl ((zU_n (by decide)).trans ((mix_h (by decide)).trans (plS_50 hn5 k))) ?_
        refine z_iload rfl rfl ?_
        refine z_iast (e := b (i + 3 * (k : Int) + 1)) rfl rfl (by decide) (by omega) rfl ?_
        refine z_aload rfl rfl ?_
        refine z_getR (r := 53) rfl rfl (hR _ rm_50_4 (by decide)) ?_
        refine z_aload rfl rfl ?_
        refine z_getI (v := n + (k : Int)) rfl rfl ((zU_n (by decide)).trans ((zU_n (by decide)).trans ((mix_h (by decide)).trans (plS_50 hn5 k)))) ?_
        refine z_iload rfl rfl ?_
        refine z_iast (e := b (i + 3 * (k : Int) + 2)) rfl rfl (by decide) (by omega) rfl ?_
        refine z_aload rfl rfl ?_
        refine z_getR (r := 54) rfl rfl (hR _ rm_50_5 (by decide)) ?_
        refine z_aload rfl rfl ?_
        refine z_getI (v := n + (k : Int)) rfl rfl ((zU_n (by decide)).trans ((zU_n (by decide)).trans ((zU_n (by decide)).trans ((mix_h (by decide)).trans (plS_50 hn5 k))))) ?_
        refine z_pushI (z := 5) rfl rfl ?_
        refine z_iast (e := 5) rfl rfl (by decide) (by omega) rfl ?_
        refine z_aload rfl rfl ?_
        refine z_getR (r := 55) rfl rfl (hR _ rm_50_6 (by decide)) ?_
        refine z_aload rfl rfl ?_
        refine z_getI (v := n + (k : Int)) rfl rfl ((zU_n (by decide)).trans ((zU_n (by decide)).trans ((zU_n (by decide)).trans ((zU_n (by decide)).trans ((mix_h (by decide)).trans (plS_50 hn5 k)))))) ?_
        refine z_pushI (z := 0) rfl rfl ?_
        refine z_iast (e := 0) rfl rfl (by decide) (by omega) rfl ?_
        refine z_aload rfl rfl ?_
        refine z_getR (r := 75) rfl rfl (hR _ rm_50_42 (by decide)) ?_
        refine z_aload rfl rfl ?_
        refine z_getI (v := n + (k : Int)) rfl rfl ((zU_n (by decide)).trans ((zU_n (by decide)).trans ((zU_n (by decide)).trans ((zU_n (by decide)).trans ((zU_n (by decide)).trans ((mix_h (by decide)).trans (plS_50 hn5 k))))))) ?_
        refine z_pushI (z := 0) rfl rfl ?_
        refine z_iast (e := 0) rfl rfl (by decide) (by omega) rfl ?_
        refine z_aload rfl rfl ?_
        refine z_getR (r := 76) rfl rfl (hR _ rm_50_43 (by decide)) ?_
        refine z_aload rfl rfl ?_
        refine z_getI (v := n + (k : Int)) rfl rfl ((zU_n (by decide)).trans ((zU_n (by decide)).trans ((zU_n (by decide)).trans ((zU_n (by decide)).trans ((zU_n (by decide)).trans ((zU_n (by decide)).trans ((mix_h (by decide)).trans (plS_50 hn5 k)))))))) ?_
        refine z_pushI (z := 0) rfl rfl ?_
        refine z_iast (e := 0) rfl rfl (by decide) (by omega) rfl ?_
        refine z_aload rfl rfl ?_
        refine z_dup rfl rfl ?_
        refine z_getI (v := n + (k : Int)) rfl rfl ((zU_n (by decide)).trans ((zU_n (by decide)).trans ((zU_n (by decide)).trans ((zU_n (by decide)).trans ((zU_n (by decide)).trans ((zU_n (by decide)).trans ((zU_n (by decide)).trans ((mix_h (by decide)).trans (plS_50 hn5 k))))))))) ?_
        refine z_pushI (z := 1) rfl rfl ?_
        refine z_iadd (e := n + (k : Int) + 1) rfl rfl ?_
        refine z_putI (y := 1) rfl rfl rfl ?_
        refine z_aload rfl rfl ?_
        refine z_getI (v := n + (k : Int) + 1) rfl rfl (zU_e) ?_
        refine z_pushI (z := 1) rfl rfl ?_
        refine z_isub (e := n + (k : Int) + 1 - 1) rfl rfl ?_
        refine z_iret rfl rfl ?_
        show zW _ _ _ _ _ _ _ _ _ _
        refine z_pop rfl rfl ?_
        refine z_iinc (c := 1) (e := (k : Int) + 1) rfl rfl rfl rfl rfl ?_
        refine z_goto rfl ?_
        show zW _ _ _ _ [some (.ref 50), some (zi s), some (zi i), some (zi c), some (zi ((k : Int) + 1)), some (zl (i + 3 * (k : Int))), none, some (zi (60 * s + (i + 3 * (k : Int))))] [] _ _ _ _
        have hg := ih (k + 1) (some (zl (i + 3 * (k : Int)))) none (some (zi (60 * s + (i + 3 * (k : Int))))) (by omega) (by omega)
        rw [show plS n b i J (k + 1) = plA (n + k) (plS n b i J k) (b (i + 3 * k)) (b (i + 3 * k + 1)) (b (i + 3 * k + 2)) from rfl, plA_h] at hg
        exact hg
theorem st_places_n {X : Nat × (Nat → Int32)} {d : Nat} {J M : zA} {R : zR} {s i c : Int} (hr : Rel X J M R) (hs : -2147483648 ≤ s ∧ s < 2147483648) (hi : -2147483648 ≤ i ∧ i < 2147483648) (hc : -2147483648 ≤ c ∧ c < 2147483648) (hs6 : ¬ (0 ≤ s ∧ s < 6)) : zW X (d + 20) 102 0 (gEn 102 [(.ref 0), (zi s), (zi i), (zi c)]) [] J M R (stP X (d + 20) 154 [(zi s), (zi i), (zi c)]) := by
  have hr0 := hr
  obtain ⟨hR, hG, hY, hD, hP, hC, hAc, hS, hTp, hX, hW⟩ := hr0
  have hRr : zRoR R := zRoR_of hR
  show zW _ _ _ _ [some (.ref 0), some (zi s), some (zi i), some (zi c), none, none] _ _ _ _ _
  refine z_iload rfl rfl ?_
  refine z_callSi (As := [_]) (le := [some _]) rfl rfl (Nat.le_of_ble_eq_true rfl) (Nat.le_of_ble_eq_true rfl) rfl ?_
  refine z_iload rfl rfl ?_
  refine z_if_lt rfl (by omega) (fun h1 => ?_) (fun h1 => ?_)
  · refine z_pushI (z := 0) rfl rfl ?_
    refine z_bret rfl rfl (by decide) ?_
    show zW _ _ _ _ _ _ _ _ _ _
    refine z_if_eqT rfl (by decide) (by decide) ?_
    refine z_pushI (z := (-1)) rfl rfl ?_
    refine z_iret rfl rfl ?_
    refine ⟨_, rfl, ?_⟩
    show zW _ _ _ _ [some (.ref 50), some (zi s), some (zi i), some (zi c), none, none, none, none] _ _ _ _ _
    refine z_iload rfl rfl ?_
    refine z_callSi (As := [_]) (le := [some _]) rfl rfl (Nat.le_of_ble_eq_true rfl) (Nat.le_of_ble_eq_true rfl) rfl ?_
    refine z_iload rfl rfl ?_
    refine z_pushI (z := 0) rfl rfl ?_
    refine z_pushI (z := 5) rfl rfl ?_
    refine z_callSi (As := [_, _, _]) (le := [some _, some _, some _]) rfl rfl (Nat.le_of_ble_eq_true rfl) (Nat.le_of_ble_eq_true rfl) rfl ?_
    refine z_iload rfl rfl ?_
    refine z_iload rfl rfl ?_
    refine z_icmp_ltT rfl (by omega) (by decide) (by omega) ?_
    refine z_pushI (z := 0) rfl rfl ?_
    refine z_bret rfl rfl (by decide) ?_
    show zW _ _ _ _ _ _ _ _ _ _
    refine z_bret rfl rfl (by decide) ?_
    show zW _ _ _ _ _ _ _ _ _ _
    refine z_if_eqT rfl (by decide) (by decide) ?_
    refine z_pushI (z := (-1)) rfl rfl ?_
    refine z_iret rfl rfl ?_
    refine ⟨?_, ?_⟩
    · first | rfl | exact congrArg (fun v => some (zi v)) (by omega) | (exfalso; omega)
    · exact hr
  · refine z_iload rfl rfl ?_
    refine z_pushI (z := 6) rfl rfl ?_
    refine z_icmp_geT rfl (by omega) (by decide) (by omega) ?_
    refine z_pushI (z := 0) rfl rfl ?_
    refine z_bret rfl rfl (by decide) ?_
    show zW _ _ _ _ _ _ _ _ _ _
    refine z_if_eqT rfl (by decide) (by decide) ?_
    refine z_pushI (z := (-1)) rfl rfl ?_
    refine z_iret rfl rfl ?_
    refine ⟨_, rfl, ?_⟩
    show zW _ _ _ _ [some (.ref 50), some (zi s), some (zi i), some (zi c), none, none, none, none] _ _ _ _ _
    refine z_iload rfl rfl ?_
    refine z_callSi (As := [_]) (le := [some _]) rfl rfl (Nat.le_of_ble_eq_true rfl) (Nat.le_of_ble_eq_true rfl) rfl ?_
    refine z_iload rfl rfl ?_
    refine z_pushI (z := 0) rfl rfl ?_
    refine z_pushI (z := 5) rfl rfl ?_
    refine z_callSi (As := [_, _, _]) (le := [some _, some _, some _]) rfl rfl (Nat.le_of_ble_eq_true rfl) (Nat.le_of_ble_eq_true rfl) rfl ?_
    refine z_iload rfl rfl ?_
    refine z_iload rfl rfl ?_
    refine z_icmp_ltF rfl (by omega) (by decide) (by omega) ?_
    refine z_iload rfl rfl ?_
    refine z_iload rfl rfl ?_
    refine z_icmp_gtT rfl (by omega) (by decide) (by omega) ?_
    refine z_pushI (z := 0) rfl rfl ?_
    refine z_bret rfl rfl (by decide) ?_
    show zW _ _ _ _ _ _ _ _ _ _
    refine z_bret rfl rfl (by decide) ?_
    show zW _ _ _ _ _ _ _ _ _ _
    refine z_if_eqT rfl (by decide) (by decide) ?_
    refine z_pushI (z := (-1)) rfl rfl ?_
    refine z_iret rfl rfl ?_
    refine ⟨?_, ?_⟩
    · first | rfl | exact congrArg (fun v => some (zi v)) (by omega) | (exfalso; omega)
    · exact hr
theorem st_places_0 {X : Nat × (Nat → Int32)} {d : Nat} {J M : zA} {R : zR} {s i c : Int} (hr : Rel X J M R) (hs : -2147483648 ≤ s ∧ s < 2147483648) (hi : -2147483648 ≤ i ∧ i < 2147483648) (hc : -2147483648 ≤ c ∧ c < 2147483648) (hs6 : 0 ≤ s ∧ s < 6) (hh : J (38 + 2 * s.toNat) 0 = 0) : zW X (d + 20) 102 0 (gEn 102 [(.ref 0), (zi s), (zi i), (zi c)]) [] J M R (stP X (d + 20) 154 [(zi s), (zi i), (zi c)]) := by
  have hr0 := hr
  obtain ⟨hR, hG, hY, hD, hP, hC, hAc, hS, hTp, hX, hW⟩ := hr0
  have hRr : zRoR R := zRoR_of hR
  have hA0 := hAc
  obtain ⟨a1, a2, a3, a4, a5, a6⟩ := hA0
  have e83 : J 83 s = -1 := (hS s hs6.1 hs6.2).1.symm.trans (cH_0 hh)
  have s3 : 0 ≤ J (38 + 2 * s.toNat) 2 ∧ J (38 + 2 * s.toNat) 2 ≤ 4 := (hS s hs6.1 hs6.2).2.2.1
  have s4 : 0 ≤ J (38 + 2 * s.toNat) 3 ∧ J (38 + 2 * s.toNat) 3 ≤ 60 := (hS s hs6.1 hs6.2).2.2.2.1
  show zW _ _ _ _ [some (.ref 0), some (zi s), some (zi i), some (zi c), none, none] _ _ _ _ _
  refine z_iload rfl rfl ?_
  refine z_callSi (As := [_]) (le := [some _]) rfl rfl (Nat.le_of_ble_eq_true rfl) (Nat.le_of_ble_eq_true rfl) rfl ?_
  refine z_iload rfl rfl ?_
  refine z_if_ltF rfl (by omega) (by omega) ?_
  refine z_iload rfl rfl ?_
  refine z_pushI (z := 6) rfl rfl ?_
  refine z_icmp_geF rfl (by omega) (by decide) (by omega) ?_
  refine z_pushI (z := 1) rfl rfl ?_
  refine z_goto rfl ?_
  refine z_bret rfl rfl (by decide) ?_
  show zW _ _ _ _ _ _ _ _ _ _
  refine z_if_eqF rfl (by decide) (by decide) ?_
  refine z_iload rfl rfl ?_
  refine z_pushI (z := 1) rfl rfl ?_
  refine z_icmp_lt rfl (by omega) (by decide) (fun h1 => ?_) (fun h1 => ?_)
  · refine z_pushI (z := (-1)) rfl rfl ?_
    refine z_iret rfl rfl ?_
    refine ⟨_, rfl, ?_⟩
    show zW _ _ _ _ [some (.ref 50), some (zi s), some (zi i), some (zi c), none, none, none, none] _ _ _ _ _
    refine z_iload rfl rfl ?_
    refine z_callSi (As := [_]) (le := [some _]) rfl rfl (Nat.le_of_ble_eq_true rfl) (Nat.le_of_ble_eq_true rfl) rfl ?_
    refine z_iload rfl rfl ?_
    refine z_pushI (z := 0) rfl rfl ?_
    refine z_pushI (z := 5) rfl rfl ?_
    refine z_callSi (As := [_, _, _]) (le := [some _, some _, some _]) rfl rfl (Nat.le_of_ble_eq_true rfl) (Nat.le_of_ble_eq_true rfl) rfl ?_
    refine z_iload rfl rfl ?_
    refine z_iload rfl rfl ?_
    refine z_icmp_ltF rfl (by omega) (by decide) (by omega) ?_
    refine z_iload rfl rfl ?_
    refine z_iload rfl rfl ?_
    refine z_icmp_gtF rfl (by omega) (by decide) (by omega) ?_
    refine z_pushI (z := 1) rfl rfl ?_
    refine z_goto rfl ?_
    refine z_bret rfl rfl (by decide) ?_
    show zW _ _ _ _ _ _ _ _ _ _
    refine z_bret rfl rfl (by decide) ?_
    show zW _ _ _ _ _ _ _ _ _ _
    refine z_if_eqF rfl (by decide) (by decide) ?_
    refine z_iload rfl rfl ?_
    refine z_pushI (z := 1) rfl rfl ?_
    refine z_pushI (z := 8) rfl rfl ?_
    refine z_callSi (As := [_, _, _]) (le := [some _, some _, some _]) rfl rfl (Nat.le_of_ble_eq_true rfl) (Nat.le_of_ble_eq_true rfl) rfl ?_
    refine z_iload rfl rfl ?_
    refine z_iload rfl rfl ?_
    refine z_icmp_ltT rfl (by omega) (by decide) (by omega) ?_
    refine z_pushI (z := 0) rfl rfl ?_
    refine z_bret rfl rfl (by decide) ?_
    show zW _ _ _ _ _ _ _ _ _ _
    refine z_if_neF rfl (by decide) (by decide) ?_
    refine z_pushI (z := (-1)) rfl rfl ?_
    refine z_iret rfl rfl ?_
    refine ⟨?_, ?_⟩
    · first | rfl | exact congrArg (fun v => some (zi v)) (by omega) | (exfalso; omega)
    · exact hr
  · refine z_iload rfl rfl ?_
    refine z_pushI (z := 8) rfl rfl ?_
    refine z_icmp_le rfl (by omega) (by decide) (fun h2 => ?_) (fun h2 => ?_)
    · refine z_aload rfl rfl ?_
      refine z_getR (r := 37) rfl rfl (hR _ rm_0_11) ?_
      refine z_iload rfl rfl ?_
      refine z_aald (r := 38 + 2 * s.toNat) rfl rfl (by decide) (by omega) (rr_shelf hR (by omega)) ?_
      refine z_astore rfl rfl ?_
      refine z_aload rfl rfl ?_
      refine z_callVi (As := []) (le := [some _]) rfl rfl (zk_shelf (by omega)) (Nat.le_of_ble_eq_true rfl) (Nat.le_of_ble_eq_true rfl) rfl ?_
      refine z_aload rfl rfl ?_
      refine z_getI (v := 0) rfl (zk_shelf (by omega)) (hh) ?_
      refine z_if_neF rfl (by decide) (by decide) ?_
      refine z_pushI (z := 1) rfl rfl ?_
      refine z_goto rfl ?_
      refine z_bret rfl rfl (by decide) ?_
      show zW _ _ _ _ _ _ _ _ _ _
      refine z_if_eqF rfl (by decide) (by decide) ?_
      refine z_pushI (z := 0) rfl rfl ?_
      refine z_iret rfl rfl ?_
      refine ⟨_, rfl, ?_⟩
      show zW _ _ _ _ [some (.ref 50), some (zi s), some (zi i), some (zi c), none, none, none, none] _ _ _ _ _
      refine z_iload rfl rfl ?_
      refine z_callSi (As := [_]) (le := [some _]) rfl rfl (Nat.le_of_ble_eq_true rfl) (Nat.le_of_ble_eq_true rfl) rfl ?_
      refine z_iload rfl rfl ?_
      refine z_pushI (z := 0) rfl rfl ?_
      refine z_pushI (z := 5) rfl rfl ?_
      refine z_callSi (As := [_, _, _]) (le := [some _, some _, some _]) rfl rfl (Nat.le_of_ble_eq_true rfl) (Nat.le_of_ble_eq_true rfl) rfl ?_
      refine z_iload rfl rfl ?_
      refine z_iload rfl rfl ?_
      refine z_icmp_ltF rfl (by omega) (by decide) (by omega) ?_
      refine z_iload rfl rfl ?_
      refine z_iload rfl rfl ?_
      refine z_icmp_gtF rfl (by omega) (by decide) (by omega) ?_
      refine z_pushI (z := 1) rfl rfl ?_
      refine z_goto rfl ?_
      refine z_bret rfl rfl (by decide) ?_
      show zW _ _ _ _ _ _ _ _ _ _
      refine z_bret rfl rfl (by decide) ?_
      show zW _ _ _ _ _ _ _ _ _ _
      refine z_if_eqF rfl (by decide) (by decide) ?_
      refine z_iload rfl rfl ?_
      refine z_pushI (z := 1) rfl rfl ?_
      refine z_pushI (z := 8) rfl rfl ?_
      refine z_callSi (As := [_, _, _]) (le := [some _, some _, some _]) rfl rfl (Nat.le_of_ble_eq_true rfl) (Nat.le_of_ble_eq_true rfl) rfl ?_
      refine z_iload rfl rfl ?_
      refine z_iload rfl rfl ?_
      refine z_icmp_ltF rfl (by omega) (by decide) (by omega) ?_
      refine z_iload rfl rfl ?_
      refine z_iload rfl rfl ?_
      refine z_icmp_gtF rfl (by omega) (by decide) (by omega) ?_
      refine z_pushI (z := 1) rfl rfl ?_
      refine z_goto rfl ?_
      refine z_bret rfl rfl (by decide) ?_
      show zW _ _ _ _ _ _ _ _ _ _
      refine z_if_neT rfl (by decide) (by decide) ?_
      refine z_aload rfl rfl ?_
      refine z_getR (r := 83) rfl rfl (hRr _ rm_50_58 (by decide)) ?_
      refine z_iload rfl rfl ?_
      refine z_iald (v := (-1)) rfl rfl (by decide) (by omega) (e83) ?_
      refine z_pushI (z := (-1)) rfl rfl ?_
      refine z_icmp_eqT rfl (by decide) (by decide) (by decide) ?_
      refine z_aload rfl rfl ?_
      refine z_getR (r := 83) rfl rfl (hRr _ rm_50_58 (by decide)) ?_
      refine z_iload rfl rfl ?_
      refine z_iald (v := (-1)) rfl rfl (by decide) (by omega) (e83) ?_
      refine z_pushI (z := (-1)) rfl rfl ?_
      refine z_icmp_neF rfl (by decide) (by decide) (by decide) ?_
      refine z_pushI (z := 0) rfl rfl ?_
      refine z_iret rfl rfl ?_
      refine ⟨?_, ?_⟩
      · first | rfl | exact congrArg (fun v => some (zi v)) (by omega) | (exfalso; omega)
      · exact hr
    · refine z_pushI (z := (-1)) rfl rfl ?_
      refine z_iret rfl rfl ?_
      refine ⟨_, rfl, ?_⟩
      show zW _ _ _ _ [some (.ref 50), some (zi s), some (zi i), some (zi c), none, none, none, none] _ _ _ _ _
      refine z_iload rfl rfl ?_
      refine z_callSi (As := [_]) (le := [some _]) rfl rfl (Nat.le_of_ble_eq_true rfl) (Nat.le_of_ble_eq_true rfl) rfl ?_
      refine z_iload rfl rfl ?_
      refine z_pushI (z := 0) rfl rfl ?_
      refine z_pushI (z := 5) rfl rfl ?_
      refine z_callSi (As := [_, _, _]) (le := [some _, some _, some _]) rfl rfl (Nat.le_of_ble_eq_true rfl) (Nat.le_of_ble_eq_true rfl) rfl ?_
      refine z_iload rfl rfl ?_
      refine z_iload rfl rfl ?_
      refine z_icmp_ltF rfl (by omega) (by decide) (by omega) ?_
      refine z_iload rfl rfl ?_
      refine z_iload rfl rfl ?_
      refine z_icmp_gtF rfl (by omega) (by decide) (by omega) ?_
      refine z_pushI (z := 1) rfl rfl ?_
      refine z_goto rfl ?_
      refine z_bret rfl rfl (by decide) ?_
      show zW _ _ _ _ _ _ _ _ _ _
      refine z_bret rfl rfl (by decide) ?_
      show zW _ _ _ _ _ _ _ _ _ _
      refine z_if_eqF rfl (by decide) (by decide) ?_
      refine z_iload rfl rfl ?_
      refine z_pushI (z := 1) rfl rfl ?_
      refine z_pushI (z := 8) rfl rfl ?_
      refine z_callSi (As := [_, _, _]) (le := [some _, some _, some _]) rfl rfl (Nat.le_of_ble_eq_true rfl) (Nat.le_of_ble_eq_true rfl) rfl ?_
      refine z_iload rfl rfl ?_
      refine z_iload rfl rfl ?_
      refine z_icmp_ltF rfl (by omega) (by decide) (by omega) ?_
      refine z_iload rfl rfl ?_
      refine z_iload rfl rfl ?_
      refine z_icmp_gtT rfl (by omega) (by decide) (by omega) ?_
      refine z_pushI (z := 0) rfl rfl ?_
      refine z_bret rfl rfl (by decide) ?_
      show zW _ _ _ _ _ _ _ _ _ _
      refine z_if_neF rfl (by decide) (by decide) ?_
      refine z_pushI (z := (-1)) rfl rfl ?_
      refine z_iret rfl rfl ?_
      refine ⟨?_, ?_⟩
      · first | rfl | exact congrArg (fun v => some (zi v)) (by omega) | (exfalso; omega)
      · exact hr
theorem st_places_1 {X : Nat × (Nat → Int32)} {d : Nat} {J M : zA} {R : zR} {s i c : Int} (hr : Rel X J M R) (hs : -2147483648 ≤ s ∧ s < 2147483648) (hi : -2147483648 ≤ i ∧ i < 2147483648) (hc : -2147483648 ≤ c ∧ c < 2147483648) (hs6 : 0 ≤ s ∧ s < 6) (hh : J (38 + 2 * s.toNat) 0 = 1) : zW X (d + 20) 102 0 (gEn 102 [(.ref 0), (zi s), (zi i), (zi c)]) [] J M R (stP X (d + 20) 154 [(zi s), (zi i), (zi c)]) := by
  have hr0 := hr
  obtain ⟨hR, hG, hY, hD, hP, hC, hAc, hS, hTp, hX, hW⟩ := hr0
  have hRr : zRoR R := zRoR_of hR
  have hA0 := hAc
  obtain ⟨a1, a2, a3, a4, a5, a6⟩ := hA0
  have e83 : J 83 s = J (38 + 2 * s.toNat) 1 := (hS s hs6.1 hs6.2).1.symm.trans (cH_1 hh)
  have s3 : 0 ≤ J (38 + 2 * s.toNat) 2 ∧ J (38 + 2 * s.toNat) 2 ≤ 4 := (hS s hs6.1 hs6.2).2.2.1
  have s4 : 0 ≤ J (38 + 2 * s.toNat) 3 ∧ J (38 + 2 * s.toNat) 3 ≤ 60 := (hS s hs6.1 hs6.2).2.2.2.1
  have s5 : 0 ≤ J (38 + 2 * s.toNat) 1 ∧ J (38 + 2 * s.toNat) 1 < J 34 1 := (hS s hs6.1 hs6.2).2.2.2.2.1 hh
  show zW _ _ _ _ [some (.ref 0), some (zi s), some (zi i), some (zi c), none, none] _ _ _ _ _
  refine z_iload rfl rfl ?_
  refine z_callSi (As := [_]) (le := [some _]) rfl rfl (Nat.le_of_ble_eq_true rfl) (Nat.le_of_ble_eq_true rfl) rfl ?_
  refine z_iload rfl rfl ?_
  refine z_if_ltF rfl (by omega) (by omega) ?_
  refine z_iload rfl rfl ?_
  refine z_pushI (z := 6) rfl rfl ?_
  refine z_icmp_geF rfl (by omega) (by decide) (by omega) ?_
  refine z_pushI (z := 1) rfl rfl ?_
  refine z_goto rfl ?_
  refine z_bret rfl rfl (by decide) ?_
  show zW _ _ _ _ _ _ _ _ _ _
  refine z_if_eqF rfl (by decide) (by decide) ?_
  refine z_iload rfl rfl ?_
  refine z_pushI (z := 1) rfl rfl ?_
  refine z_icmp_lt rfl (by omega) (by decide) (fun h1 => ?_) (fun h1 => ?_)
  · refine z_pushI (z := (-1)) rfl rfl ?_
    refine z_iret rfl rfl ?_
    refine ⟨_, rfl, ?_⟩
    show zW _ _ _ _ [some (.ref 50), some (zi s), some (zi i), some (zi c), none, none, none, none] _ _ _ _ _
    refine z_iload rfl rfl ?_
    refine z_callSi (As := [_]) (le := [some _]) rfl rfl (Nat.le_of_ble_eq_true rfl) (Nat.le_of_ble_eq_true rfl) rfl ?_
    refine z_iload rfl rfl ?_
    refine z_pushI (z := 0) rfl rfl ?_
    refine z_pushI (z := 5) rfl rfl ?_
    refine z_callSi (As := [_, _, _]) (le := [some _, some _, some _]) rfl rfl (Nat.le_of_ble_eq_true rfl) (Nat.le_of_ble_eq_true rfl) rfl ?_
    refine z_iload rfl rfl ?_
    refine z_iload rfl rfl ?_
    refine z_icmp_ltF rfl (by omega) (by decide) (by omega) ?_
    refine z_iload rfl rfl ?_
    refine z_iload rfl rfl ?_
    refine z_icmp_gtF rfl (by omega) (by decide) (by omega) ?_
    refine z_pushI (z := 1) rfl rfl ?_
    refine z_goto rfl ?_
    refine z_bret rfl rfl (by decide) ?_
    show zW _ _ _ _ _ _ _ _ _ _
    refine z_bret rfl rfl (by decide) ?_
    show zW _ _ _ _ _ _ _ _ _ _
    refine z_if_eqF rfl (by decide) (by decide) ?_
    refine z_iload rfl rfl ?_
    refine z_pushI (z := 1) rfl rfl ?_
    refine z_pushI (z := 8) rfl rfl ?_
    refine z_callSi (As := [_, _, _]) (le := [some _, some _, some _]) rfl rfl (Nat.le_of_ble_eq_true rfl) (Nat.le_of_ble_eq_true rfl) rfl ?_
    refine z_iload rfl rfl ?_
    refine z_iload rfl rfl ?_
    refine z_icmp_ltT rfl (by omega) (by decide) (by omega) ?_
    refine z_pushI (z := 0) rfl rfl ?_
    refine z_bret rfl rfl (by decide) ?_
    show zW _ _ _ _ _ _ _ _ _ _
    refine z_if_neF rfl (by decide) (by decide) ?_
    refine z_pushI (z := (-1)) rfl rfl ?_
    refine z_iret rfl rfl ?_
    refine ⟨?_, ?_⟩
    · first | rfl | exact congrArg (fun v => some (zi v)) (by omega) | (exfalso; omega)
    · exact hr
  · refine z_iload rfl rfl ?_
    refine z_pushI (z := 8) rfl rfl ?_
    refine z_icmp_le rfl (by omega) (by decide) (fun h2 => ?_) (fun h2 => ?_)
    · refine z_aload rfl rfl ?_
      refine z_getR (r := 37) rfl rfl (hR _ rm_0_11) ?_
      refine z_iload rfl rfl ?_
      refine z_aald (r := 38 + 2 * s.toNat) rfl rfl (by decide) (by omega) (rr_shelf hR (by omega)) ?_
      refine z_astore rfl rfl ?_
      refine z_aload rfl rfl ?_
      refine z_callVi (As := []) (le := [some _]) rfl rfl (zk_shelf (by omega)) (Nat.le_of_ble_eq_true rfl) (Nat.le_of_ble_eq_true rfl) rfl ?_
      refine z_aload rfl rfl ?_
      refine z_getI (v := 1) rfl (zk_shelf (by omega)) (hh) ?_
      refine z_if_neT rfl (by decide) (by decide) ?_
      refine z_pushI (z := 0) rfl rfl ?_
      refine z_bret rfl rfl (by decide) ?_
      show zW _ _ _ _ _ _ _ _ _ _
      refine z_if_eqT rfl (by decide) (by decide) ?_
      refine z_aload rfl rfl ?_
      refine z_callVi (As := []) (le := [some _]) rfl rfl (zk_shelf (by omega)) (Nat.le_of_ble_eq_true rfl) (Nat.le_of_ble_eq_true rfl) rfl ?_
      refine z_aload rfl rfl ?_
      refine z_getI (v := 1) rfl (zk_shelf (by omega)) (hh) ?_
      refine z_pushI (z := 2) rfl rfl ?_
      refine z_icmp_neT rfl (by decide) (by decide) (by decide) ?_
      refine z_pushI (z := 0) rfl rfl ?_
      refine z_bret rfl rfl (by decide) ?_
      show zW _ _ _ _ _ _ _ _ _ _
      refine z_if_neF rfl (by decide) (by decide) ?_
      refine z_pushI (z := (-12)) rfl rfl ?_
      refine z_iret rfl rfl ?_
      refine ⟨_, rfl, ?_⟩
      show zW _ _ _ _ [some (.ref 50), some (zi s), some (zi i), some (zi c), none, none, none, none] _ _ _ _ _
      refine z_iload rfl rfl ?_
      refine z_callSi (As := [_]) (le := [some _]) rfl rfl (Nat.le_of_ble_eq_true rfl) (Nat.le_of_ble_eq_true rfl) rfl ?_
      refine z_iload rfl rfl ?_
      refine z_pushI (z := 0) rfl rfl ?_
      refine z_pushI (z := 5) rfl rfl ?_
      refine z_callSi (As := [_, _, _]) (le := [some _, some _, some _]) rfl rfl (Nat.le_of_ble_eq_true rfl) (Nat.le_of_ble_eq_true rfl) rfl ?_
      refine z_iload rfl rfl ?_
      refine z_iload rfl rfl ?_
      refine z_icmp_ltF rfl (by omega) (by decide) (by omega) ?_
      refine z_iload rfl rfl ?_
      refine z_iload rfl rfl ?_
      refine z_icmp_gtF rfl (by omega) (by decide) (by omega) ?_
      refine z_pushI (z := 1) rfl rfl ?_
      refine z_goto rfl ?_
      refine z_bret rfl rfl (by decide) ?_
      show zW _ _ _ _ _ _ _ _ _ _
      refine z_bret rfl rfl (by decide) ?_
      show zW _ _ _ _ _ _ _ _ _ _
      refine z_if_eqF rfl (by decide) (by decide) ?_
      refine z_iload rfl rfl ?_
      refine z_pushI (z := 1) rfl rfl ?_
      refine z_pushI (z := 8) rfl rfl ?_
      refine z_callSi (As := [_, _, _]) (le := [some _, some _, some _]) rfl rfl (Nat.le_of_ble_eq_true rfl) (Nat.le_of_ble_eq_true rfl) rfl ?_
      refine z_iload rfl rfl ?_
      refine z_iload rfl rfl ?_
      refine z_icmp_ltF rfl (by omega) (by decide) (by omega) ?_
      refine z_iload rfl rfl ?_
      refine z_iload rfl rfl ?_
      refine z_icmp_gtF rfl (by omega) (by decide) (by omega) ?_
      refine z_pushI (z := 1) rfl rfl ?_
      refine z_goto rfl ?_
      refine z_bret rfl rfl (by decide) ?_
      show zW _ _ _ _ _ _ _ _ _ _
      refine z_if_neT rfl (by decide) (by decide) ?_
      refine z_aload rfl rfl ?_
      refine z_getR (r := 83) rfl rfl (hRr _ rm_50_58 (by decide)) ?_
      refine z_iload rfl rfl ?_
      refine z_iald (v := J (38 + 2 * s.toNat) 1) rfl rfl (by decide) (by omega) (e83) ?_
      refine z_pushI (z := (-1)) rfl rfl ?_
      refine z_icmp_eq rfl (by omega) (by decide) (fun h3 => ?_) (fun h3 => ?_)
      · refine z_aload rfl rfl ?_
        refine z_getR (r := 83) rfl rfl (hRr _ rm_50_58 (by decide)) ?_
        refine z_iload rfl rfl ?_
        refine z_iald (v := J (38 + 2 * s.toNat) 1) rfl rfl (by decide) (by omega) (e83) ?_
        refine z_pushI (z := (-1)) rfl rfl ?_
        refine z_icmp_neF rfl (by omega) (by decide) (by omega) ?_
        refine z_pushI (z := 0) rfl rfl ?_
        refine z_iret rfl rfl ?_
        refine ⟨?_, ?_⟩
        · first | rfl | exact congrArg (fun v => some (zi v)) (by omega) | (exfalso; omega)
        · exact hr
      · refine z_aload rfl rfl ?_
        refine z_getR (r := 83) rfl rfl (hRr _ rm_50_58 (by decide)) ?_
        refine z_iload rfl rfl ?_
        refine z_iald (v := J (38 + 2 * s.toNat) 1) rfl rfl (by decide) (by omega) (e83) ?_
        refine z_pushI (z := (-2)) rfl rfl ?_
        refine z_icmp_eq rfl (by omega) (by decide) (fun h4 => ?_) (fun h4 => ?_)
        · refine z_aload rfl rfl ?_
          refine z_getR (r := 83) rfl rfl (hRr _ rm_50_58 (by decide)) ?_
          refine z_iload rfl rfl ?_
          refine z_iald (v := J (38 + 2 * s.toNat) 1) rfl rfl (by decide) (by omega) (e83) ?_
          refine z_pushI (z := (-1)) rfl rfl ?_
          refine z_icmp_neT rfl (by omega) (by decide) (by omega) ?_
          refine z_pushI (z := 0) rfl rfl ?_
          refine z_istore rfl rfl ?_
          show zW _ _ _ _ [some (.ref 50), some (zi s), some (zi i), some (zi c), some (zi 0), none, none, none] [] _ _ _ _
          exfalso
          omega
        · refine z_pushI (z := (-12)) rfl rfl ?_
          refine z_iret rfl rfl ?_
          refine ⟨?_, ?_⟩
          · first | rfl | exact congrArg (fun v => some (zi v)) (by omega) | (exfalso; omega)
          · exact hr
    · refine z_pushI (z := (-1)) rfl rfl ?_
      refine z_iret rfl rfl ?_
      refine ⟨_, rfl, ?_⟩
      show zW _ _ _ _ [some (.ref 50), some (zi s), some (zi i), some (zi c), none, none, none, none] _ _ _ _ _
      refine z_iload rfl rfl ?_
      refine z_callSi (As := [_]) (le := [some _]) rfl rfl (Nat.le_of_ble_eq_true rfl) (Nat.le_of_ble_eq_true rfl) rfl ?_
      refine z_iload rfl rfl ?_
      refine z_pushI (z := 0) rfl rfl ?_
      refine z_pushI (z := 5) rfl rfl ?_
      refine z_callSi (As := [_, _, _]) (le := [some _, some _, some _]) rfl rfl (Nat.le_of_ble_eq_true rfl) (Nat.le_of_ble_eq_true rfl) rfl ?_
      refine z_iload rfl rfl ?_
      refine z_iload rfl rfl ?_
      refine z_icmp_ltF rfl (by omega) (by decide) (by omega) ?_
      refine z_iload rfl rfl ?_
      refine z_iload rfl rfl ?_
      refine z_icmp_gtF rfl (by omega) (by decide) (by omega) ?_
      refine z_pushI (z := 1) rfl rfl ?_
      refine z_goto rfl ?_
      refine z_bret rfl rfl (by decide) ?_
      show zW _ _ _ _ _ _ _ _ _ _
      refine z_bret rfl rfl (by decide) ?_
      show zW _ _ _ _ _ _ _ _ _ _
      refine z_if_eqF rfl (by decide) (by decide) ?_
      refine z_iload rfl rfl ?_
      refine z_pushI (z := 1) rfl rfl ?_
      refine z_pushI (z := 8) rfl rfl ?_
      refine z_callSi (As := [_, _, _]) (le := [some _, some _, some _]) rfl rfl (Nat.le_of_ble_eq_true rfl) (Nat.le_of_ble_eq_true rfl) rfl ?_
      refine z_iload rfl rfl ?_
      refine z_iload rfl rfl ?_
      refine z_icmp_ltF rfl (by omega) (by decide) (by omega) ?_
      refine z_iload rfl rfl ?_
      refine z_iload rfl rfl ?_
      refine z_icmp_gtT rfl (by omega) (by decide) (by omega) ?_
      refine z_pushI (z := 0) rfl rfl ?_
      refine z_bret rfl rfl (by decide) ?_
      show zW _ _ _ _ _ _ _ _ _ _
      refine z_if_neF rfl (by decide) (by decide) ?_
      refine z_pushI (z := (-1)) rfl rfl ?_
      refine z_iret rfl rfl ?_
      refine ⟨?_, ?_⟩
      · first | rfl | exact congrArg (fun v => some (zi v)) (by omega) | (exfalso; omega)
      · exact hr
theorem placesC_01 {X : Nat × (Nat → Int32)} {d : Nat} {J M : zA} {R : zR} {P : zP} {s i c n z : Int} {b : Int → Int} (hR : zRok R) (hs : 0 ≤ s ∧ s < 6) (hi : -2147483648 ≤ i ∧ i < 2147483648) (hc : 1 ≤ c ∧ c ≤ 8) (hn : 0 ≤ n ∧ n ≤ 8) (hzr : 0 ≤ z ∧ z ≤ 60) (hbr : ∀ y, 0 ≤ y → y < z → -128 ≤ b y ∧ b y ≤ 127) (hn8 : J 8 2 = n) (hz : J (38 + 2 * s.toNat) 3 = z) (hb : ∀ y, 0 ≤ y → y < z → M (39 + 2 * s.toNat) y = b y) (KK : ∀ K : Nat, (∀ t, t < K → pOk n b i z t) → (K : Int) ≤ c → ((K : Int) = c ∨ ¬ pOk n b i z K) → P (some (zi (K : Int))) (mix (plS n b i J K) J) M R) : zW X (d + 6) 102 52 [some (.ref 0), some (zi s), some (zi i), some (zi c), some (.ref (38 + 2 * s.toNat)), some (zi 0)] [] J M R P := by
  have h := placesC_z hR hs hi hc hn hzr hbr hn8 hz hb KK 9 0 (by decide) (by omega) (fun t ht => absurd ht (by omega)) (d := d) (X := X)
  rw [show plS n b i J 0 = J from rfl, mix_r] at h
  exact h
theorem placesR_01 {X : Nat × (Nat → Int32)} {d : Nat} {J M : zA} {R : zR} {P : zP} {s i c n z : Int} {b : Int → Int} (hR : zRoR R) (hs : 0 ≤ s ∧ s < 6) (hi : -2147483648 ≤ i ∧ i < 2147483648) (hc : 1 ≤ c ∧ c ≤ 8) (hn : 0 ≤ n ∧ n ≤ 8) (hzr : 0 ≤ z ∧ z ≤ 60) (hbr : ∀ y, 0 ≤ y → y < z → -128 ≤ b y ∧ b y ≤ 127) (hn5 : J 50 1 = n) (hz : J 84 s = z) (hb : ∀ y, 0 ≤ y → y < z → M 85 (60 * s + y) = b y) {K : Nat} (hok : ∀ t, t < K → pOk n b i z t) (hKc : (K : Int) ≤ c) (hend : (K : Int) = c ∨ ¬ pOk n b i z K) (KK : P (some (zi (K : Int))) (plS n b i J K) M R) {e5 e6 e7 : Option Value} : zW X (d + 6) 154 58 [some (.ref 50), some (zi s), some (zi i), some (zi c), some (zi 0), e5, e6, e7] [] (mix (plS n b i J K) J) M R P := by
  have h := placesR_z (d := d) (X := X) hR hs hi hc hn hzr hbr hn5 hz hb hok hKc hend (by rw [mix_r]; exact KK) K 0 e5 e6 e7 (by omega) (by omega)
  exact h
theorem st_places_2 {X : Nat × (Nat → Int32)} {d : Nat} {J M : zA} {R : zR} {s i c : Int} (hr : Rel X J M R) (hs : -2147483648 ≤ s ∧ s < 2147483648) (hi : -2147483648 ≤ i ∧ i < 2147483648) (hc : -2147483648 ≤ c ∧ c < 2147483648) (hs6 : 0 ≤ s ∧ s < 6) (hh : J (38 + 2 * s.toNat) 0 = 2) : zW X (d + 20) 102 0 (gEn 102 [(.ref 0), (zi s), (zi i), (zi c)]) [] J M R (stP X (d + 20) 154 [(zi s), (zi i), (zi c)]) := by
  have hr0 := hr
  obtain ⟨hR, hG, hY, hD, hP, hC, hAc, hS, hTp, hX, hW⟩ := hr0
  have hRr : zRoR R := zRoR_of hR
  have hY0 := hY
  obtain ⟨y1, y2, y3⟩ := hY0
  have yn := zNn y3
  have e83 : J 83 s = -2 - J (38 + 2 * s.toNat) 2 := (hS s hs6.1 hs6.2).1.symm.trans (cH_2 hh)
  have s3 : 0 ≤ J (38 + 2 * s.toNat) 2 ∧ J (38 + 2 * s.toNat) 2 ≤ 4 := (hS s hs6.1 hs6.2).2.2.1
  have s4 : 0 ≤ J (38 + 2 * s.toNat) 3 ∧ J (38 + 2 * s.toNat) 3 ≤ 60 := (hS s hs6.1 hs6.2).2.2.2.1
  have s6 := (hS s hs6.1 hs6.2).2.2.2.2.2 hh
  have s7 : J 84 s = J (38 + 2 * s.toNat) 3 := s6.1.symm
  have s8 : ∀ i, 0 ≤ i → i < J (38 + 2 * s.toNat) 3 → M (39 + 2 * s.toNat) i = M 85 (60 * s + i) := s6.2.1
  show zW _ _ _ _ [some (.ref 0), some (zi s), some (zi i), some (zi c), none, none] _ _ _ _ _
  refine z_iload rfl rfl ?_
  refine z_callSi (As := [_]) (le := [some _]) rfl rfl (Nat.le_of_ble_eq_true rfl) (Nat.le_of_ble_eq_true rfl) rfl ?_
  refine z_iload rfl rfl ?_
  refine z_if_ltF rfl (by omega) (by omega) ?_
  refine z_iload rfl rfl ?_
  refine z_pushI (z := 6) rfl rfl ?_
  refine z_icmp_geF rfl (by omega) (by decide) (by omega) ?_
  refine z_pushI (z := 1) rfl rfl ?_
  refine z_goto rfl ?_
  refine z_bret rfl rfl (by decide) ?_
  show zW _ _ _ _ _ _ _ _ _ _
  refine z_if_eqF rfl (by decide) (by decide) ?_
  refine z_iload rfl rfl ?_
  refine z_pushI (z := 1) rfl rfl ?_
  refine z_icmp_lt rfl (by omega) (by decide) (fun h1 => ?_) (fun h1 => ?_)
  · refine z_pushI (z := (-1)) rfl rfl ?_
    refine z_iret rfl rfl ?_
    refine ⟨_, rfl, ?_⟩
    show zW _ _ _ _ [some (.ref 50), some (zi s), some (zi i), some (zi c), none, none, none, none] _ _ _ _ _
    refine z_iload rfl rfl ?_
    refine z_callSi (As := [_]) (le := [some _]) rfl rfl (Nat.le_of_ble_eq_true rfl) (Nat.le_of_ble_eq_true rfl) rfl ?_
    refine z_iload rfl rfl ?_
    refine z_pushI (z := 0) rfl rfl ?_
    refine z_pushI (z := 5) rfl rfl ?_
    refine z_callSi (As := [_, _, _]) (le := [some _, some _, some _]) rfl rfl (Nat.le_of_ble_eq_true rfl) (Nat.le_of_ble_eq_true rfl) rfl ?_
    refine z_iload rfl rfl ?_
    refine z_iload rfl rfl ?_
    refine z_icmp_ltF rfl (by omega) (by decide) (by omega) ?_
    refine z_iload rfl rfl ?_
    refine z_iload rfl rfl ?_
    refine z_icmp_gtF rfl (by omega) (by decide) (by omega) ?_
    refine z_pushI (z := 1) rfl rfl ?_
    refine z_goto rfl ?_
    refine z_bret rfl rfl (by decide) ?_
    show zW _ _ _ _ _ _ _ _ _ _
    refine z_bret rfl rfl (by decide) ?_
    show zW _ _ _ _ _ _ _ _ _ _
    refine z_if_eqF rfl (by decide) (by decide) ?_
    refine z_iload rfl rfl ?_
    refine z_pushI (z := 1) rfl rfl ?_
    refine z_pushI (z := 8) rfl rfl ?_
    refine z_callSi (As := [_, _, _]) (le := [some _, some _, some _]) rfl rfl (Nat.le_of_ble_eq_true rfl) (Nat.le_of_ble_eq_true rfl) rfl ?_
    refine z_iload rfl rfl ?_
    refine z_iload rfl rfl ?_
    refine z_icmp_ltT rfl (by omega) (by decide) (by omega) ?_
    refine z_pushI (z := 0) rfl rfl ?_
    refine z_bret rfl rfl (by decide) ?_
    show zW _ _ _ _ _ _ _ _ _ _
    refine z_if_neF rfl (by decide) (by decide) ?_
    refine z_pushI (z := (-1)) rfl rfl ?_
    refine z_iret rfl rfl ?_
    refine ⟨?_, ?_⟩
    · first | rfl | exact congrArg (fun v => some (zi v)) (by omega) | (exfalso; omega)
    · exact hr
  · refine z_iload rfl rfl ?_
    refine z_pushI (z := 8) rfl rfl ?_
    refine z_icmp_le rfl (by omega) (by decide) (fun h2 => ?_) (fun h2 => ?_)
    · refine z_aload rfl rfl ?_
      refine z_getR (r := 37) rfl rfl (hR _ rm_0_11) ?_
      refine z_iload rfl rfl ?_
      refine z_aald (r := 38 + 2 * s.toNat) rfl rfl (by decide) (by omega) (rr_shelf hR (by omega)) ?_
      refine z_astore rfl rfl ?_
      refine z_aload rfl rfl ?_
      refine z_callVi (As := []) (le := [some _]) rfl rfl (zk_shelf (by omega)) (Nat.le_of_ble_eq_true rfl) (Nat.le_of_ble_eq_true rfl) rfl ?_
      refine z_aload rfl rfl ?_
      refine z_getI (v := 2) rfl (zk_shelf (by omega)) (hh) ?_
      refine z_if_neT rfl (by decide) (by decide) ?_
      refine z_pushI (z := 0) rfl rfl ?_
      refine z_bret rfl rfl (by decide) ?_
      show zW _ _ _ _ _ _ _ _ _ _
      refine z_if_eqT rfl (by decide) (by decide) ?_
      refine z_aload rfl rfl ?_
      refine z_callVi (As := []) (le := [some _]) rfl rfl (zk_shelf (by omega)) (Nat.le_of_ble_eq_true rfl) (Nat.le_of_ble_eq_true rfl) rfl ?_
      refine z_aload rfl rfl ?_
      refine z_getI (v := 2) rfl (zk_shelf (by omega)) (hh) ?_
      refine z_pushI (z := 2) rfl rfl ?_
      refine z_icmp_neF rfl (by decide) (by decide) (by decide) ?_
      refine z_aload rfl rfl ?_
      refine z_getI (v := J (38 + 2 * s.toNat) 2) rfl (zk_shelf (by omega)) (rfl) ?_
      refine z_if_ne rfl (by omega) (fun h3 => ?_) (fun h3 => ?_)
      · refine z_pushI (z := 0) rfl rfl ?_
        refine z_bret rfl rfl (by decide) ?_
        show zW _ _ _ _ _ _ _ _ _ _
        refine z_if_neF rfl (by decide) (by decide) ?_
        refine z_pushI (z := (-12)) rfl rfl ?_
        refine z_iret rfl rfl ?_
        refine ⟨_, rfl, ?_⟩
        show zW _ _ _ _ [some (.ref 50), some (zi s), some (zi i), some (zi c), none, none, none, none] _ _ _ _ _
        refine z_iload rfl rfl ?_
        refine z_callSi (As := [_]) (le := [some _]) rfl rfl (Nat.le_of_ble_eq_true rfl) (Nat.le_of_ble_eq_true rfl) rfl ?_
        refine z_iload rfl rfl ?_
        refine z_pushI (z := 0) rfl rfl ?_
        refine z_pushI (z := 5) rfl rfl ?_
        refine z_callSi (As := [_, _, _]) (le := [some _, some _, some _]) rfl rfl (Nat.le_of_ble_eq_true rfl) (Nat.le_of_ble_eq_true rfl) rfl ?_
        refine z_iload rfl rfl ?_
        refine z_iload rfl rfl ?_
        refine z_icmp_ltF rfl (by omega) (by decide) (by omega) ?_
        refine z_iload rfl rfl ?_
        refine z_iload rfl rfl ?_
        refine z_icmp_gtF rfl (by omega) (by decide) (by omega) ?_
        refine z_pushI (z := 1) rfl rfl ?_
        refine z_goto rfl ?_
        refine z_bret rfl rfl (by decide) ?_
        show zW _ _ _ _ _ _ _ _ _ _
        refine z_bret rfl rfl (by decide) ?_
        show zW _ _ _ _ _ _ _ _ _ _
        refine z_if_eqF rfl (by decide) (by decide) ?_
        refine z_iload rfl rfl ?_
        refine z_pushI (z := 1) rfl rfl ?_
        refine z_pushI (z := 8) rfl rfl ?_
        refine z_callSi (As := [_, _, _]) (le := [some _, some _, some _]) rfl rfl (Nat.le_of_ble_eq_true rfl) (Nat.le_of_ble_eq_true rfl) rfl ?_
        refine z_iload rfl rfl ?_
        refine z_iload rfl rfl ?_
        refine z_icmp_ltF rfl (by omega) (by decide) (by omega) ?_
        refine z_iload rfl rfl ?_
        refine z_iload rfl rfl ?_
        refine z_icmp_gtF rfl (by omega) (by decide) (by omega) ?_
        refine z_pushI (z := 1) rfl rfl ?_
        refine z_goto rfl ?_
        refine z_bret rfl rfl (by decide) ?_
        show zW _ _ _ _ _ _ _ _ _ _
        refine z_if_neT rfl (by decide) (by decide) ?_
        refine z_aload rfl rfl ?_
        refine z_getR (r := 83) rfl rfl (hRr _ rm_50_58 (by decide)) ?_
        refine z_iload rfl rfl ?_
        refine z_iald (v := (-2) - (J (38 + 2 * s.toNat) 2)) rfl rfl (by decide) (by omega) (e83) ?_
        refine z_pushI (z := (-1)) rfl rfl ?_
        refine z_icmp_eqF rfl (by omega) (by decide) (by omega) ?_
        refine z_aload rfl rfl ?_
        refine z_getR (r := 83) rfl rfl (hRr _ rm_50_58 (by decide)) ?_
        refine z_iload rfl rfl ?_
        refine z_iald (v := (-2) - (J (38 + 2 * s.toNat) 2)) rfl rfl (by decide) (by omega) (e83) ?_
        refine z_pushI (z := (-2)) rfl rfl ?_
        refine z_icmp_eqF rfl (by omega) (by decide) (by omega) ?_
        refine z_pushI (z := (-12)) rfl rfl ?_
        refine z_iret rfl rfl ?_
        refine ⟨?_, ?_⟩
        · first | rfl | exact congrArg (fun v => some (zi v)) (by omega) | (exfalso; omega)
        · exact hr
      · refine z_pushI (z := 1) rfl rfl ?_
        refine z_goto rfl ?_
        refine z_bret rfl rfl (by decide) ?_
        show zW _ _ _ _ _ _ _ _ _ _
        refine z_if_neT rfl (by decide) (by decide) ?_
        refine z_pushI (z := 0) rfl rfl ?_
        refine z_istore rfl rfl ?_
        show zW _ _ _ _ [some (.ref 0), some (zi s), some (zi i), some (zi c), some (.ref (38 + 2 * s.toNat)), some (zi 0)] [] _ _ _ _
        have hbr := s6.2.2 (by omega)
        refine placesC_01 (n := J 8 2) (b := (fun y => M (39 + 2 * s.toNat) y)) (z := (J (38 + 2 * s.toNat) 3)) hR hs6 hi (by omega) yn s4 hbr rfl rfl (fun y _ _ => rfl) (fun K k1 k2 k3 => ?_)
        refine ⟨_, rfl, ?_⟩
        show zW _ _ _ _ [some (.ref 50), some (zi s), some (zi i), some (zi c), none, none, none, none] _ _ _ _ _
        refine z_iload rfl rfl ?_
        refine z_callSi (As := [_]) (le := [some _]) rfl rfl (Nat.le_of_ble_eq_true rfl) (Nat.le_of_ble_eq_true rfl) rfl ?_
        refine z_iload rfl rfl ?_
        refine z_pushI (z := 0) rfl rfl ?_
        refine z_pushI (z := 5) rfl rfl ?_
        refine z_callSi (As := [_, _, _]) (le := [some _, some _, some _]) rfl rfl (Nat.le_of_ble_eq_true rfl) (Nat.le_of_ble_eq_true rfl) rfl ?_
        refine z_iload rfl rfl ?_
        refine z_iload rfl rfl ?_
        refine z_icmp_ltF rfl (by omega) (by decide) (by omega) ?_
        refine z_iload rfl rfl ?_
        refine z_iload rfl rfl ?_
        refine z_icmp_gtF rfl (by omega) (by decide) (by omega) ?_
        refine z_pushI (z := 1) rfl rfl ?_
        refine z_goto rfl ?_
        refine z_bret rfl rfl (by decide) ?_
        show zW _ _ _ _ _ _ _ _ _ _
        refine z_bret rfl rfl (by decide) ?_
        show zW _ _ _ _ _ _ _ _ _ _
        refine z_if_eqF rfl (by decide) (by decide) ?_
        refine z_iload rfl rfl ?_
        refine z_pushI (z := 1) rfl rfl ?_
        refine z_pushI (z := 8) rfl rfl ?_
        refine z_callSi (As := [_, _, _]) (le := [some _, some _, some _]) rfl rfl (Nat.le_of_ble_eq_true rfl) (Nat.le_of_ble_eq_true rfl) rfl ?_
        refine z_iload rfl rfl ?_
        refine z_iload rfl rfl ?_
        refine z_icmp_lt rfl (by omega) (by decide) (fun h4 => ?_) (fun h4 => ?_)
        · refine z_pushI (z := 0) rfl rfl ?_
          refine z_bret rfl rfl (by decide) ?_
          show zW _ _ _ _ _ _ _ _ _ _
          refine z_if_neF rfl (by decide) (by decide) ?_
          refine z_pushI (z := (-1)) rfl rfl ?_
          refine z_iret rfl rfl ?_
          exfalso
          omega
        · refine z_iload rfl rfl ?_
          refine z_iload rfl rfl ?_
          refine z_icmp_gt rfl (by omega) (by decide) (fun h5 => ?_) (fun h5 => ?_)
          · refine z_pushI (z := 0) rfl rfl ?_
            refine z_bret rfl rfl (by decide) ?_
            show zW _ _ _ _ _ _ _ _ _ _
            refine z_if_neF rfl (by decide) (by decide) ?_
            refine z_pushI (z := (-1)) rfl rfl ?_
            refine z_iret rfl rfl ?_
            exfalso
            omega
          · refine z_pushI (z := 1) rfl rfl ?_
            refine z_goto rfl ?_
            refine z_bret rfl rfl (by decide) ?_
            show zW _ _ _ _ _ _ _ _ _ _
            refine z_if_neT rfl (by decide) (by decide) ?_
            refine z_aload rfl rfl ?_
            refine z_getR (r := 83) rfl rfl (hRr _ rm_50_58 (by decide)) ?_
            refine z_iload rfl rfl ?_
            refine z_iald (v := (-2)) rfl rfl (by decide) (by omega) ((mix_h (by decide)).trans (e83.trans (by omega))) ?_
            refine z_pushI (z := (-1)) rfl rfl ?_
            refine z_icmp_eqF rfl (by decide) (by decide) (by decide) ?_
            refine z_aload rfl rfl ?_
            refine z_getR (r := 83) rfl rfl (hRr _ rm_50_58 (by decide)) ?_
            refine z_iload rfl rfl ?_
            refine z_iald (v := (-2)) rfl rfl (by decide) (by omega) ((mix_h (by decide)).trans (e83.trans (by omega))) ?_
            refine z_pushI (z := (-2)) rfl rfl ?_
            refine z_icmp_eqT rfl (by decide) (by decide) (by decide) ?_
            refine z_aload rfl rfl ?_
            refine z_getR (r := 83) rfl rfl (hRr _ rm_50_58 (by decide)) ?_
            refine z_iload rfl rfl ?_
            refine z_iald (v := (-2)) rfl rfl (by decide) (by omega) ((mix_h (by decide)).trans (e83.trans (by omega))) ?_
            refine z_pushI (z := (-1)) rfl rfl ?_
            refine z_icmp_neT rfl (by decide) (by decide) (by decide) ?_
            refine z_pushI (z := 0) rfl rfl ?_
            refine z_istore rfl rfl ?_
            show zW _ _ _ _ [some (.ref 50), some (zi s), some (zi i), some (zi c), some (zi 0), none, none, none] [] _ _ _ _
            refine placesR_01 (d := d + 14) (n := J 8 2) (b := (fun y => M (39 + 2 * s.toNat) y)) (z := (J (38 + 2 * s.toNat) 3)) hRr hs6 hi (by omega) yn s4 hbr y2.symm s7 (fun y a1 a2 => (s8 y a1 a2).symm) k1 k2 k3 ⟨rfl, ?_⟩
            exact Rel_plS hr rfl K k1
    · refine z_pushI (z := (-1)) rfl rfl ?_
      refine z_iret rfl rfl ?_
      refine ⟨_, rfl, ?_⟩
      show zW _ _ _ _ [some (.ref 50), some (zi s), some (zi i), some (zi c), none, none, none, none] _ _ _ _ _
      refine z_iload rfl rfl ?_
      refine z_callSi (As := [_]) (le := [some _]) rfl rfl (Nat.le_of_ble_eq_true rfl) (Nat.le_of_ble_eq_true rfl) rfl ?_
      refine z_iload rfl rfl ?_
      refine z_pushI (z := 0) rfl rfl ?_
      refine z_pushI (z := 5) rfl rfl ?_
      refine z_callSi (As := [_, _, _]) (le := [some _, some _, some _]) rfl rfl (Nat.le_of_ble_eq_true rfl) (Nat.le_of_ble_eq_true rfl) rfl ?_
      refine z_iload rfl rfl ?_
      refine z_iload rfl rfl ?_
      refine z_icmp_ltF rfl (by omega) (by decide) (by omega) ?_
      refine z_iload rfl rfl ?_
      refine z_iload rfl rfl ?_
      refine z_icmp_gtF rfl (by omega) (by decide) (by omega) ?_
      refine z_pushI (z := 1) rfl rfl ?_
      refine z_goto rfl ?_
      refine z_bret rfl rfl (by decide) ?_
      show zW _ _ _ _ _ _ _ _ _ _
      refine z_bret rfl rfl (by decide) ?_
      show zW _ _ _ _ _ _ _ _ _ _
      refine z_if_eqF rfl (by decide) (by decide) ?_
      refine z_iload rfl rfl ?_
      refine z_pushI (z := 1) rfl rfl ?_
      refine z_pushI (z := 8) rfl rfl ?_
      refine z_callSi (As := [_, _, _]) (le := [some _, some _, some _]) rfl rfl (Nat.le_of_ble_eq_true rfl) (Nat.le_of_ble_eq_true rfl) rfl ?_
      refine z_iload rfl rfl ?_
      refine z_iload rfl rfl ?_
      refine z_icmp_ltF rfl (by omega) (by decide) (by omega) ?_
      refine z_iload rfl rfl ?_
      refine z_iload rfl rfl ?_
      refine z_icmp_gtT rfl (by omega) (by decide) (by omega) ?_
      refine z_pushI (z := 0) rfl rfl ?_
      refine z_bret rfl rfl (by decide) ?_
      show zW _ _ _ _ _ _ _ _ _ _
      refine z_if_neF rfl (by decide) (by decide) ?_
      refine z_pushI (z := (-1)) rfl rfl ?_
      refine z_iret rfl rfl ?_
      refine ⟨?_, ?_⟩
      · first | rfl | exact congrArg (fun v => some (zi v)) (by omega) | (exfalso; omega)
      · exact hr
theorem st_places {X : Nat × (Nat → Int32)} {d : Nat} {J M : zA} {R : zR} {s i c : Int} (hr : Rel X J M R) (hs : -2147483648 ≤ s ∧ s < 2147483648) (hi : -2147483648 ≤ i ∧ i < 2147483648) (hc : -2147483648 ≤ c ∧ c < 2147483648) : zW X (d + 20) 102 0 (gEn 102 [(.ref 0), (zi s), (zi i), (zi c)]) [] J M R (stP X (d + 20) 154 [(zi s), (zi i), (zi c)]) := by
  by_cases hs6 : 0 ≤ s ∧ s < 6
  · have hS : RelS J M := hr.2.2.2.2.2.2.2.1
    have h2 := (hS s hs6.1 hs6.2).2.1
    have h4 : J (38 + 2 * s.toNat) 0 = 0 ∨ J (38 + 2 * s.toNat) 0 = 1 ∨ J (38 + 2 * s.toNat) 0 = 2 := by omega
    rcases h4 with hh | hh | hh
    · exact st_places_0 hr hs hi hc hs6 hh
    · exact st_places_1 hr hs hi hc hs6 hh
    · exact st_places_2 hr hs hi hc hs6 hh
  · exact st_places_n hr hs hi hc hs6
