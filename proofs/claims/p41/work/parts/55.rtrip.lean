/-- all but the text's and the round's rows of work of the reference -/
noncomputable def kQ (x : Nat) (j : Int) : Bool := kT x j && !(x.beq 69 || x.beq 70 || (x.beq 50 && (decide (30 ≤ j) && decide (j ≤ 34))))
theorem kQ_T : ∀ x j, kQ x j = true → kT x j = true := by
  intro x j h
  unfold kQ at h
  exact (Bool.and_eq_true _ _ ▸ h).1
theorem kQ_b {x : Nat} {j : Int} (h : 51 ≤ x ∧ x ≤ 66) : kQ x j = true := by
  unfold kQ
  rw [kT_b (by omega), beq_f (n := 69) (by omega), beq_f (n := 70) (by omega), beq_f (n := 50) (by omega)]
  rfl
theorem rN_Q {A J : zA} (h : zK kQ A J) : rN J = rN A := by
  funext p w
  unfold rN
  rw [h 50 1 rfl, h 56 _ rfl]
  by_cases c : 0 ≤ w ∧ w < 5 ∧ 0 ≤ p ∧ p < A 50 1
  · rw [if_pos c, if_pos c]
    exact h _ _ (kQ_b (by omega))
  · rw [if_neg c, if_neg c]
theorem LawR_Q {X : Nat × (Nat → Int32)} {A J : zA} {T : zX} (h : LawR X A T) (hk : zK kQ A J) : LawR X J T := LawR_A h (hk 50 27 rfl) (fun x j a b => hk x j (kQ_b (by omega)))
noncomputable def zH (B : zA) (p s l f m b : Int) : zA := fun x j => if x = 69 then (if j = p then s else B 69 j) else if x = 70 then (if j = p then l else B 70 j) else if x = 50 then (if j = 32 then f else if j = 31 then m else if j = 34 then b else B 50 j) else B x j
theorem zH_69 {B : zA} {p s l f m b : Int} : zH B p s l f m b 69 p = s := by unfold zH; rw [if_pos rfl, if_pos rfl]
theorem zH_70 {B : zA} {p s l f m b : Int} : zH B p s l f m b 70 p = l := by unfold zH; rw [if_neg (by decide), if_pos rfl, if_pos rfl]
theorem zH_69i {B : zA} {p s l f m b x : Int} : zH B p s l f m b 69 x = if x = p then s else B 69 x := by unfold zH; rw [if_pos rfl]
theorem zH_70i {B : zA} {p s l f m b x : Int} : zH B p s l f m b 70 x = if x = p then l else B 70 x := by unfold zH; rw [if_neg (by decide), if_pos rfl]
theorem zH_50i {B : zA} {p s l f m b x : Int} : zH B p s l f m b 50 x = if x = 32 then f else if x = 31 then m else if x = 34 then b else B 50 x := by unfold zH; rw [if_neg (by decide), if_neg (by decide), if_pos rfl]
theorem zH_n {B : zA} {p s l f m b x : Int} {y : Nat} (h1 : y ≠ 69) (h2 : y ≠ 70) (h3 : y ≠ 50) : zH B p s l f m b y x = B y x := by unfold zH; rw [if_neg h1, if_neg h2, if_neg h3]
theorem zH_s {B : zA} {p s l f m b v : Int} : zU (zH B p s l f m b) 69 p v = zH B p v l f m b := by
  funext x j
  by_cases h : x = 69
  · subst h
    rw [zU_i, zH_69i, zH_69i]
    (repeat' split) <;> first | rfl | (exfalso; omega)
  · rw [zU_n h]
    unfold zH
    (repeat' split) <;> first | rfl | contradiction
theorem zH_l {B : zA} {p s l f m b v : Int} : zU (zH B p s l f m b) 70 p v = zH B p s v f m b := by
  funext x j
  by_cases h : x = 70
  · subst h
    rw [zU_i, zH_70i, zH_70i]
    (repeat' split) <;> first | rfl | (exfalso; omega)
  · rw [zU_n h]
    unfold zH
    (repeat' split) <;> first | rfl | contradiction
theorem zH_f {B : zA} {p s l f m b v : Int} : zU (zH B p s l f m b) 50 32 v = zH B p s l v m b := by
  funext x j
  by_cases h : x = 50
  · subst h
    rw [zU_i, zH_50i, zH_50i]
    (repeat' split) <;> first | rfl | (exfalso; omega)
  · rw [zU_n h]
    unfold zH
    (repeat' split) <;> first | rfl | contradiction
theorem zH_m {B : zA} {p s l f m b v : Int} : zU (zH B p s l f m b) 50 31 v = zH B p s l f v b := by
  funext x j
  by_cases h : x = 50
  · subst h
    rw [zU_i, zH_50i, zH_50i]
    (repeat' split) <;> first | rfl | (exfalso; omega)
  · rw [zU_n h]
    unfold zH
    (repeat' split) <;> first | rfl | contradiction
theorem zH_b {B : zA} {p s l f m b v : Int} : zU (zH B p s l f m b) 50 34 v = zH B p s l f m v := by
  funext x j
  by_cases h : x = 50
  · subst h
    rw [zU_i, zH_50i, zH_50i]
    (repeat' split) <;> first | rfl | (exfalso; omega)
  · rw [zU_n h]
    unfold zH
    (repeat' split) <;> first | rfl | contradiction
theorem zH_is {B : zA} {p s l f m b : Int} (h1 : B 69 p = s) (h2 : B 70 p = l) (h3 : B 50 32 = f) (h4 : B 50 31 = m) (h5 : B 50 34 = b) : zH B p s l f m b = B := by
  funext x j
  unfold zH
  (repeat' split) <;> first | rfl | (subst_vars; first | rfl | assumption | (symm; assumption))
/-- the reference's row of work holds a round -/
def rTr (J : zA) (n : Int) (s : tR) (w g : Int) : Prop := J 50 33 = g ∧ J 50 30 = tat s ∧ J 50 31 = tmi s ∧ J 50 32 = tfo s ∧ J 50 34 = tmk s ∧ J 50 35 = w ∧ (∀ p, 0 ≤ p → p < n → J 69 p = tsh s p) ∧ (∀ p, 0 ≤ p → p < n → J 70 p = tli s p)
theorem rTr_k {J J2 : zA} {n : Int} {s : tR} {w g : Int} (h : rTr J n s w g) (hk : zK kT J J2) : rTr J2 n s w g := by
  obtain ⟨z, a, b, c, d, e, g, i⟩ := h
  exact ⟨(hk 50 33 rfl).trans z, (hk 50 30 rfl).trans a, (hk 50 31 rfl).trans b, (hk 50 32 rfl).trans c, (hk 50 34 rfl).trans d, (hk 50 35 rfl).trans e, fun p x y => (hk 69 p rfl).trans (g p x y), fun p x y => (hk 70 p rfl).trans (i p x y)⟩
theorem listensIn_k {X : Nat × (Nat → Int32)} {d : Nat} {J M : zA} {R : zR} {A : zA} {N : Int → Int → Int} {n : Int} (hR : zRoR R) (hJ : zK kT A J) (hA : rN A = N) (hz : A 50 1 = n) (hN : zNr n N) {T : zX} (hT : LawR X A T) (hTr : Tok T) {p m s l : Int} (hs : A 69 p = s) (hl : A 70 p = l) (hp : 0 ≤ p ∧ p < n) (hs2 : 0 ≤ s ∧ s ≤ 1000000) (hl2 : 0 ≤ l ∧ l ≤ 100000) (hm : 0 ≤ m ∧ m ≤ 10000) : zW X (d + 6) 189 0 (gEn 189 [(.ref 50), (zi p), (zi m)]) [] J M R (fun r J2 M2 R2 => r = some (zi (s - lf T N s p l m)) ∧ zK kT (zU (zU A 69 p (lf T N s p l m)) 70 p (l + 1)) J2 ∧ M2 = M ∧ R2 = R) := by
  have q := zNn hN
  have r := @lf_r T N s p l m hs2.1
  show zW _ _ _ _ [some (.ref 50), some (zi p), some (zi m), none, none] _ _ _ _ _
  refine z_aload0 rfl ?_
  refine z_getR (r := 69) rfl gk_50 (hR _ rm_50_28 (by decide)) ?_
  refine z_iload1 rfl ?_
  refine z_iald (v := s) rfl gk_69 (by decide) (by omega) ((hJ 69 p rfl).trans hs) ?_
  refine z_pushJ gp_189_6 ?_
  refine z_aload0 rfl ?_
  refine z_iload1 rfl ?_
  refine z_aload0 rfl ?_
  refine z_getR (r := 70) rfl gk_50 (hR _ rm_50_29 (by decide)) ?_
  refine z_iload1 rfl ?_
  refine z_iald (v := l) rfl gk_70 (by decide) (by omega) ((hJ 70 p rfl).trans hl) ?_
  refine z_iload2 rfl ?_
  refine z_callVk (As := [_, _, _]) (v := tw T N p l m) rfl rfl gk_50 (Nat.le_of_ble_eq_true rfl) (Nat.le_of_ble_eq_true rfl) (hearsBy_k hR hJ hA hz hN hT hTr (by omega) (by omega) (by omega)) (fun J1 hJ1 => ?_)
  have q2 := @tw_r T N p l m
  refine z_isub (e := 12 - (tw T N p l m)) rfl rfl ?_
  refine z_imul (e := s * (12 - (tw T N p l m))) rfl rfl ?_
  refine z_pushJ gp_189_22 ?_
  refine z_idiv (e := s * (12 - (tw T N p l m)) / 12) rfl (by omega) (by omega) rfl ?_
  refine z_istore (ls1 := [some (.ref 50), some (zi p), some (zi m), some (zi (s * (12 - (tw T N p l m)) / 12)), none]) rfl rfl ?_
  refine z_aload0 rfl ?_
  refine z_getR (r := 69) rfl gk_50 (hR _ rm_50_28 (by decide)) ?_
  refine z_iload1 rfl ?_
  refine z_iald (v := s) rfl gk_69 (by decide) (by omega) ((hJ1 69 p rfl).trans hs) ?_
  refine z_iload3 rfl ?_
  refine z_isub (e := s - s * (12 - (tw T N p l m)) / 12) rfl rfl ?_
  refine z_istore (ls1 := [some (.ref 50), some (zi p), some (zi m), some (zi (s * (12 - (tw T N p l m)) / 12)), some (zi (s - s * (12 - (tw T N p l m)) / 12))]) rfl rfl ?_
  refine z_aload0 rfl ?_
  refine z_getR (r := 69) rfl gk_50 (hR _ rm_50_28 (by decide)) ?_
  refine z_iload1 rfl ?_
  refine z_iload3 rfl ?_
  refine z_iast (e := s * (12 - (tw T N p l m)) / 12) rfl gk_69 (by decide) (by omega) rfl ?_
  refine z_aload0 rfl ?_
  refine z_getR (r := 70) rfl gk_50 (hR _ rm_50_29 (by decide)) ?_
  refine z_iload1 rfl ?_
  refine z_dup2 rfl rfl rfl ?_
  refine z_iald (v := l) rfl gk_70 (by decide) (by omega) ((zU_n (by decide)).trans ((hJ1 70 p rfl).trans hl)) ?_
  refine z_pushJ gp_189_50 ?_
  refine z_iadd (e := l + 1) rfl rfl ?_
  refine z_iast (e := l + 1) rfl gk_70 (by decide) (by omega) rfl ?_
  refine z_iload4 rfl ?_
  refine z_iret rfl gr_189 ?_
  exact ⟨rfl, (zK_u (a := 70) (x := p) (v := l + 1) (zK_u (a := 69) (x := p) (v := s * (12 - (tw T N p l m)) / 12) hJ1)), rfl, rfl⟩
theorem zH_kQ {B : zA} {p s l f m b : Int} {x : Nat} {j : Int} (h : kQ x j = true) : zH B p s l f m b x j = B x j := by
  unfold zH
  by_cases h1 : x = 69
  · subst h1; exfalso; revert h; show ¬ (kT 69 j && !(true)) = true; cases kT 69 j <;> decide
  · by_cases h2 : x = 70
    · subst h2; exfalso; revert h; show ¬ (kT 70 j && !(true)) = true; cases kT 70 j <;> decide
    · rw [if_neg h1, if_neg h2]
      by_cases h3 : x = 50
      · subst h3
        have h : (!(decide (30 ≤ j) && decide (j ≤ 34))) = true := h
        have : ¬ (30 ≤ j ∧ j ≤ 34) := by
          intro q
          rw [decide_eq_true q.1, decide_eq_true q.2] at h
          cases h
        rw [if_pos rfl, if_neg (by omega), if_neg (by omega), if_neg (by omega)]
      · rw [if_neg h3]
theorem goTo_z {X : Nat × (Nat → Int32)} {d : Nat} {M : zA} {R : zR} {P : zP} {B : zA} {N : Int → Int → Int} {n : Int} (hR : zRoR R) (hA : rN B = N) (hz : B 50 1 = n) (hN : zNr n N) {T : zX} (hT : LawR X B T) (hTr : Tok T) {c : Nat} {p w : Int} (hc : c ≤ 99) (hp : 0 ≤ p ∧ p < n) (hw : B 50 35 = w) (hw2 : 0 ≤ w ∧ w ≤ 1000000) : ∀ (j : Nat) (i s l m f b : Int) (J : zA), zK kT (zH B p s l f m b) J → i + j = c → 0 ≤ i → (0 ≤ s ∧ s ≤ 1000000) → (0 ≤ l ∧ l + j ≤ 10000) → (0 ≤ m ∧ m + j ≤ 1000) → (0 ≤ f ∧ f + s ≤ 100000000) → (-2 ≤ b ∧ b ≤ 1000) → (∀ J2 : zA, zK kT (zH B p (lB T N p j s l m) (l + j) (f + (s - lB T N p j s l m)) (m + j) (tB T N p w j s l m f b)) J2 → P none J2 M R) → zW X (d + 7) 191 21 [some (.ref 50), some (zi p), some (zi (c : Int)), some (zi i)] [] J M R P := by
  intro j
  induction j with
  | zero =>
    intro i s l m f b J hJ hi h0 hs hl hm hf hb K
    refine z_iload rfl rfl ?_
    refine z_iload rfl rfl ?_
    refine z_icmp_geT rfl (by omega) (by omega) (by omega) ?_
    refine z_vret rfl rfl (K J ?_)
    rw [show l + ((0 : Nat) : Int) = l by omega, show m + ((0 : Nat) : Int) = m by omega, show f + (s - lB T N p 0 s l m) = f by (show f + (s - s) = f); omega]
    exact hJ
  | succ j ih =>
    intro i s l m f b J hJ hi h0 hs hl hm hf hb K
    have hA2 : rN (zH B p s l f m b) = N := Eq.trans (rN_Q (A := B) (fun x j h => zH_kQ h)) hA
    have hT2 : LawR X (zH B p s l f m b) T := LawR_Q hT (fun x j h => zH_kQ h)
    have q0 := zNn hN
    have r0 := @lf_r T N s p l m hs.1
    refine z_iload3 rfl ?_
    refine z_iload2 rfl ?_
    refine z_icmp_geF rfl (by omega) (by omega) (by omega) ?_
    refine z_aload0 rfl ?_
    refine z_dup rfl rfl ?_
    refine z_getI (v := f) rfl gk_50 (hJ 50 32 rfl) ?_
    refine z_aload0 rfl ?_
    refine z_iload1 rfl ?_
    refine z_aload0 rfl ?_
    refine z_getI (v := m) rfl gk_50 (hJ 50 31 rfl) ?_
    refine z_callV (As := [_, _]) _ rfl rfl rfl (Nat.le_of_ble_eq_true rfl) (Nat.le_of_ble_eq_true rfl) (listensIn_k hR hJ hA2 hz hN hT2 hTr zH_69 zH_70 (by omega) (by omega) (by omega) (by omega)) (fun r J1 M2 R2 hr => ?_)
    obtain ⟨rfl, hJ1, rfl, rfl⟩ := hr
    rw [zH_s, zH_l] at hJ1
    show zW _ _ _ _ _ (_ :: _) _ _ _ _
    refine z_iadd (e := f + (s - lf T N s p l m)) rfl rfl ?_
    refine z_putI (y := 32) rfl rfl gk_50 ?_
    refine z_aload0 rfl ?_
    refine z_dup rfl rfl ?_
    refine z_getI (v := m) rfl gk_50 ((zU_x (by decide)).trans (hJ1 50 31 rfl)) ?_
    refine z_pushJ gp_191_49 ?_
    refine z_iadd (e := m + 1) rfl rfl ?_
    refine z_putI (y := 31) rfl rfl gk_50 ?_
    refine z_aload0 rfl ?_
    refine z_getI (v := b) rfl gk_50 ((zU_x (by decide)).trans ((zU_x (by decide)).trans (hJ1 50 34 rfl))) ?_
    refine z_if_ge rfl (by omega) (fun h2 => ?_) (fun h2 => ?_)
    · refine z_iinc (c := 1) (e := i + 1) (ls1 := [some (.ref 50), some (zi p), some (zi (c : Int)), some (zi (i + 1))]) gi_191_80 rfl rfl rfl rfl ?_
      refine z_goto gi_191_83 ?_
      show zW _ _ _ _ [some (.ref 50), some (zi p), some (zi (c : Int)), some (zi (i + 1))] [] _ _ _ _
      have hk := (zK_u (a := 50) (x := 31) (v := m + 1) (zK_u (a := 50) (x := 32) (v := f + (s - lf T N s p l m)) hJ1))
      rw [zH_f, zH_m] at hk
      have eb : (if b < 0 ∧ w ≤ f + (s - lf T N s p l m) then m + 1 else b) = b := by split <;> first | rfl | (exfalso; omega) | omega
      refine ih (i + 1) (lf T N s p l m) (l + 1) (m + 1) (f + (s - lf T N s p l m)) (if b < 0 ∧ w ≤ f + (s - lf T N s p l m) then m + 1 else b) _ (by rw [eb]; exact hk) (by omega) (by omega) (by omega) (by omega) (by omega) (by omega) (by omega) (fun J2 h2 => K J2 ?_)
      rw [show l + 1 + (j : Int) = l + ((j + 1 : Nat) : Int) by omega, show m + 1 + (j : Int) = m + ((j + 1 : Nat) : Int) by omega, show f + (s - lf T N s p l m) + (lf T N s p l m - lB T N p j (lf T N s p l m) (l + 1) (m + 1)) = f + (s - lB T N p (j + 1) s l m) by (show _ = f + (s - lB T N p j (lf T N s p l m) (l + 1) (m + 1))); omega] at h2
      exact h2
    · refine z_aload0 rfl ?_
      refine z_getI (v := f + (s - lf T N s p l m)) rfl gk_50 ((zU_x (by decide)).trans (zU_e)) ?_
      refine z_aload0 rfl ?_
      refine z_getI (v := w) rfl gk_50 ((zU_x (by decide)).trans ((zU_x (by decide)).trans ((hJ1 50 35 rfl).trans hw))) ?_
      refine z_icmp_lt rfl (by omega) (by omega) (fun h3 => ?_) (fun h3 => ?_)
      · refine z_iinc (c := 1) (e := i + 1) (ls1 := [some (.ref 50), some (zi p), some (zi (c : Int)), some (zi (i + 1))]) gi_191_80 rfl rfl rfl rfl ?_
        refine z_goto gi_191_83 ?_
        show zW _ _ _ _ [some (.ref 50), some (zi p), some (zi (c : Int)), some (zi (i + 1))] [] _ _ _ _
        have hk := (zK_u (a := 50) (x := 31) (v := m + 1) (zK_u (a := 50) (x := 32) (v := f + (s - lf T N s p l m)) hJ1))
        rw [zH_f, zH_m] at hk
        have eb : (if b < 0 ∧ w ≤ f + (s - lf T N s p l m) then m + 1 else b) = b := by split <;> first | rfl | (exfalso; omega) | omega
        refine ih (i + 1) (lf T N s p l m) (l + 1) (m + 1) (f + (s - lf T N s p l m)) (if b < 0 ∧ w ≤ f + (s - lf T N s p l m) then m + 1 else b) _ (by rw [eb]; exact hk) (by omega) (by omega) (by omega) (by omega) (by omega) (by omega) (by omega) (fun J2 h2 => K J2 ?_)
        rw [show l + 1 + (j : Int) = l + ((j + 1 : Nat) : Int) by omega, show m + 1 + (j : Int) = m + ((j + 1 : Nat) : Int) by omega, show f + (s - lf T N s p l m) + (lf T N s p l m - lB T N p j (lf T N s p l m) (l + 1) (m + 1)) = f + (s - lB T N p (j + 1) s l m) by (show _ = f + (s - lB T N p j (lf T N s p l m) (l + 1) (m + 1))); omega] at h2
        exact h2
      · refine z_aload0 rfl ?_
        refine z_aload0 rfl ?_
        refine z_getI (v := m + 1) rfl gk_50 (zU_e) ?_
        refine z_putI (y := 34) rfl rfl gk_50 ?_
        refine z_iinc (c := 1) (e := i + 1) (ls1 := [some (.ref 50), some (zi p), some (zi (c : Int)), some (zi (i + 1))]) gi_191_80 rfl rfl rfl rfl ?_
        refine z_goto gi_191_83 ?_
        show zW _ _ _ _ [some (.ref 50), some (zi p), some (zi (c : Int)), some (zi (i + 1))] [] _ _ _ _
        have hk := (zK_u (a := 50) (x := 34) (v := m + 1) (zK_u (a := 50) (x := 31) (v := m + 1) (zK_u (a := 50) (x := 32) (v := f + (s - lf T N s p l m)) hJ1)))
        rw [zH_f, zH_m, zH_b] at hk
        have eb : (if b < 0 ∧ w ≤ f + (s - lf T N s p l m) then m + 1 else b) = m + 1 := by split <;> first | rfl | (exfalso; omega) | omega
        refine ih (i + 1) (lf T N s p l m) (l + 1) (m + 1) (f + (s - lf T N s p l m)) (if b < 0 ∧ w ≤ f + (s - lf T N s p l m) then m + 1 else b) _ (by rw [eb]; exact hk) (by omega) (by omega) (by omega) (by omega) (by omega) (by omega) (by omega) (fun J2 h2 => K J2 ?_)
        rw [show l + 1 + (j : Int) = l + ((j + 1 : Nat) : Int) by omega, show m + 1 + (j : Int) = m + ((j + 1 : Nat) : Int) by omega, show f + (s - lf T N s p l m) + (lf T N s p l m - lB T N p j (lf T N s p l m) (l + 1) (m + 1)) = f + (s - lB T N p (j + 1) s l m) by (show _ = f + (s - lB T N p j (lf T N s p l m) (l + 1) (m + 1))); omega] at h2
        exact h2
theorem wayTo_s {X : Nat × (Nat → Int32)} {d : Nat} {J M : zA} {R : zR} {N : Int → Int → Int} {n : Int} (hR : zRoR R) (hA : rN J = N) (hz : J 50 1 = n) (hN : zNr n N) {s : tR} {w p g : Int} (hr : rTr J n s w g) (hp : 0 ≤ p ∧ p < n) (ha : -1 ≤ tat s ∧ tat s < n) : zW X (d + 3) 188 0 (gEn 188 [.ref 50, zi p]) [] J M R (zPu (sWay N (tat s) p) J M R) := by
  have h := @wayTo_k X d J M R J N n hR zK_r hA hz hN p hp (by rw [hr.2.1]; exact ha)
  rw [hr.2.1] at h
  exact h
theorem goTo_k {X : Nat × (Nat → Int32)} {d : Nat} {J M : zA} {R : zR} {N : Int → Int → Int} {n : Int} (hR : zRoR R) (hA : rN J = N) (hz : J 50 1 = n) (hN : zNr n N) {T : zX} (hT : LawR X J T) (hTr : Tok T) {s : tR} {w p q g : Int} {k : Nat} (hr : rTr J n s w g) (hw2 : 0 ≤ w ∧ w ≤ 1000000) (hi : tI n s k) (hk : k < 31) (hc : tC N n s p q) : zW X (d + 7) 191 0 (gEn 191 [(.ref 50), (zi p), (zi q)]) [] J M R (fun r J2 M2 R2 => r = none ∧ zK kQ J J2 ∧ rTr J2 n (tN T N w s p q) w g ∧ M2 = M ∧ R2 = R) := by
  have hJ : zK kT J J := zK_r
  have q1 := zNn hN
  have hr0 := hr
  obtain ⟨c33, c30, c31, c32, c34, c35, s69, l70⟩ := hr0
  obtain ⟨i1, i2, i3, i4, i5, i6⟩ := hi
  obtain ⟨hp, hq, h9⟩ := hc
  unfold tst at h9
  show zW _ _ _ _ [some (.ref 50), some (zi p), some (zi q), none] _ _ _ _ _
  refine z_aload0 rfl ?_
  refine z_dup rfl rfl ?_
  refine z_getI (v := tmi s) rfl gk_50 (c31) ?_
  refine z_aload0 rfl ?_
  refine z_iload1 rfl ?_
  refine z_callVP (As := [_]) (v := sWay N (tat s) p) rfl rfl gk_50 (Nat.le_of_ble_eq_true rfl) (Nat.le_of_ble_eq_true rfl) (wayTo_s hR hA hz hN hr (by omega) (by omega)) ?_
  have q1 := sWay_r hN (f := tat s) (p := p)
  refine z_iadd (e := (tmi s) + (sWay N (tat s) p)) rfl rfl ?_
  refine z_putI (y := 31) rfl rfl gk_50 ?_
  refine z_aload0 rfl ?_
  refine z_iload1 rfl ?_
  refine z_putI (y := 30) rfl rfl gk_50 ?_
  refine z_pushJ gp_191_19 ?_
  refine z_istore (ls1 := [some (.ref 50), some (zi p), some (zi q), some (zi 0)]) rfl rfl ?_
  show zW _ _ _ _ [some (.ref 50), some (zi p), some (zi q), some (zi 0)] [] _ _ _ _
  obtain ⟨c, rfl⟩ : ∃ t : Nat, q = t := ⟨q.toNat, by omega⟩
  have hKB : zK kQ J (zU (zU J 50 31 (tmi s + sWay N (tat s) p)) 50 30 p) := zK_x (zK_x zK_r rfl) rfl
  refine goTo_z (B := (zU (zU J 50 31 (tmi s + sWay N (tat s) p)) 50 30 p)) (c := c) (p := p) (w := w) hR ((rN_Q hKB).trans hA) hz hN (LawR_A hT rfl (fun x j a b => (zU_n (by omega)).trans (zU_n (by omega)))) hTr (by omega) (by omega) c35 hw2 c 0 (tsh s p) (tli s p) (tst N s p) (tfo s) (tmk s) _ (by rw [zH_is (B := (zU (zU J 50 31 (tmi s + sWay N (tat s) p)) 50 30 p)) (m := tst N s p) (s69 p (by omega) (by omega)) (l70 p (by omega) (by omega)) c32 rfl c34]; exact zK_r) (by omega) (by omega) (i1 p) (by have := i2 p; omega) (by have := q1; unfold tst; omega) (by have := i1 p; omega) (by omega) (fun J2 h2 => ?_)
  refine ⟨rfl, ?_, ⟨?_, ?_, ?_, ?_, ?_, ?_, fun x x1 x2 => ?_, fun x x1 x2 => ?_⟩, rfl, rfl⟩
  · intro x j hx
    rw [h2 x j (kQ_T x j hx), zH_kQ hx]
    exact (zK_x (zK_x (k := kQ) (A := J) (a := 50) (x := 31) zK_r rfl) rfl) x j hx
  · exact (h2 50 33 rfl).trans c33
  · exact h2 50 30 rfl
  · exact h2 50 31 rfl
  · exact h2 50 32 rfl
  · exact h2 50 34 rfl
  · exact (h2 50 35 rfl).trans c35
  · rw [h2 69 x rfl, zH_69i]
    show _ = fset (tsh s) p _ x
    unfold fset
    split
    · rfl
    · exact s69 x x1 x2
  · rw [h2 70 x rfl, zH_70i]
    show _ = fset (tli s) p _ x
    unfold fset
    split
    · rfl
    · exact l70 x x1 x2
theorem part_v {X : Nat × (Nat → Int32)} {d : Nat} {J M : zA} {R : zR} {a b v : Int} (ha : 0 ≤ a ∧ a ≤ 99) (hb : 0 ≤ b ∧ b ≤ 10000) (hv : sPart a b = v) : zW X d 186 0 (gEn 186 [zi a, zi b]) [] J M R (zPu v J M R) := by
  subst hv
  exact part_k ha hb
theorem beginR_z {X : Nat × (Nat → Int32)} {d : Nat} {J0 M : zA} {R : zR} {P : zP} {N : Int → Int → Int} {n : Int} (hR : zRoR R) (hA : rN J0 = N) (hz : J0 50 1 = n) (hN : zNr n N) : ∀ (j : Nat) (i : Int) (J : zA), zK kQ J0 J → i + j = n → 0 ≤ i → (∀ p, 0 ≤ p → p < i → J 69 p = sShare N n p ∧ J 70 p = 0) → (∀ J2 : zA, zK kQ J0 J2 → (∀ p, 0 ≤ p → p < n → J2 69 p = sShare N n p ∧ J2 70 p = 0) → zW X (d + 3) 187 44 [some (.ref 50), some (zi (sAll N n.toNat)), some (zi n)] [] J2 M R P) → zW X (d + 3) 187 7 [some (.ref 50), some (zi (sAll N n.toNat)), some (zi i)] [] J M R P := by
  intro j
  induction j with
  | zero =>
    intro i J hk hi h0 hf K
    have q1 := zNn hN
    refine z_iload rfl rfl ?_
    refine z_aload rfl rfl ?_
    refine z_getI (v := n) rfl rfl ((hk 50 1 rfl).trans hz) ?_
    refine z_icmp_geT rfl (by omega) (by omega) (by omega) ?_
    obtain rfl : i = n := by omega
    exact K J hk hf
  | succ j ih =>
    intro i J hk hi h0 hf K
    have hA2 : rN J = N := (rN_Q hk).trans hA
    have hz2 : J 50 1 = n := (hk 50 1 rfl).trans hz
    have hJ : zK kT J J := zK_r
    have q1 := zNn hN
    have q2 := sAll_r hN n.toNat
    refine z_iload2 rfl ?_
    refine z_aload0 rfl ?_
    refine z_getI (v := n) rfl gk_50 ((hJ 50 1 rfl).trans hz2) ?_
    refine z_icmp_geF rfl (by omega) (by omega) (by omega) ?_
    refine z_aload0 rfl ?_
    refine z_getR (r := 69) rfl gk_50 (hR _ rm_50_28 (by decide)) ?_
    refine z_iload2 rfl ?_
    refine z_aload0 rfl ?_
    refine z_getR (r := 53) rfl gk_50 (hR _ rm_50_4 (by decide)) ?_
    refine z_iload2 rfl ?_
    have q1 := zN2 hN i
    refine z_iald (v := N i 2) rfl gk_53 (by decide) (by omega) (rd_2 hJ hA2 hz2 (by omega)) ?_
    refine z_iload1 rfl ?_
    refine z_callSP (As := [_, _]) (v := sShare N n i) rfl rfl (Nat.le_of_ble_eq_true rfl) (Nat.le_of_ble_eq_true rfl) (part_v (by omega) (by omega) (sPart_s hN)) ?_
    refine z_iast (e := sShare N n i) rfl gk_69 (by decide) (by omega) rfl ?_
    refine z_aload0 rfl ?_
    refine z_getR (r := 70) rfl gk_50 (hR _ rm_50_29 (by decide)) ?_
    refine z_iload2 rfl ?_
    refine z_pushJ gp_187_36 ?_
    refine z_iast (e := 0) rfl gk_70 (by decide) (by omega) rfl ?_
    refine z_iinc (c := 1) (e := i + 1) (ls1 := [some (.ref 50), some (zi (sAll N n.toNat)), some (zi (i + 1))]) rfl rfl rfl rfl rfl ?_
    refine z_goto rfl ?_
    show zW _ _ _ _ [some (.ref 50), some (zi (sAll N n.toNat)), some (zi (i + 1))] [] _ _ _ _
    refine ih (i + 1) _ (zK_x (zK_x hk rfl) rfl) (by omega) (by omega) (fun p p1 p2 => ?_) K
    by_cases e : p = i
    · subst e
      exact ⟨(zU_n (by decide)).trans zU_e, zU_e⟩
    · exact ⟨(zU_n (by decide)).trans ((zU_x e).trans (hf p p1 (by omega)).1), (zU_x e).trans ((zU_n (by decide)).trans (hf p p1 (by omega)).2)⟩
theorem beginR_k {X : Nat × (Nat → Int32)} {d : Nat} {J M : zA} {R : zR} {N : Int → Int → Int} {n : Int} (hR : zRoR R) (hA : rN J = N) (hz : J 50 1 = n) (hN : zNr n N) : zW X (d + 3) 187 0 (gEn 187 [(.ref 50)]) [] J M R (fun r J2 M2 R2 => r = none ∧ zK kQ J J2 ∧ J2 50 30 = -1 ∧ J2 50 31 = 0 ∧ J2 50 32 = 0 ∧ J2 50 33 = sGone N n ∧ (∀ p, 0 ≤ p → p < n → J2 69 p = sShare N n p) ∧ (∀ p, 0 ≤ p → p < n → J2 70 p = 0) ∧ M2 = M ∧ R2 = R) := by
  have hJ : zK kT J J := zK_r
  have q0 := zNn hN
  show zW _ _ _ _ [some (.ref 50), none, none] _ _ _ _ _
  refine z_aload0 rfl ?_
  refine z_callVP (As := []) (v := sAll N n.toNat) rfl rfl gk_50 (Nat.le_of_ble_eq_true rfl) (Nat.le_of_ble_eq_true rfl) (rallOdds_k hR hJ hA hz hN) ?_
  have q1 := sAll_r hN n.toNat
  refine z_istore (ls1 := [some (.ref 50), some (zi (sAll N n.toNat)), none]) rfl rfl ?_
  refine z_pushJ gp_187_5 ?_
  refine z_istore (ls1 := [some (.ref 50), some (zi (sAll N n.toNat)), some (zi 0)]) rfl rfl ?_
  show zW _ _ _ _ [some (.ref 50), some (zi (sAll N n.toNat)), some (zi 0)] [] _ _ _ _
  refine beginR_z hR hA hz hN n.toNat 0 J zK_r (by omega) (by decide) (fun p p1 p2 => by omega) (fun J2 hk hf => ?_)
  have hJ2 : zK kT J2 J2 := zK_r
  have hA2 : rN J2 = N := (rN_Q hk).trans hA
  have hz2 : J2 50 1 = n := (hk 50 1 rfl).trans hz
  have q2 := sAll_r hN n.toNat
  refine z_aload0 rfl ?_
  refine z_aload0 rfl ?_
  refine z_getR (r := 56) rfl gk_50 (hR _ rm_50_7 (by decide)) ?_
  refine z_pushJ gp_187_49 ?_
  have q1 := zN5 hN
  refine z_iald (v := N 0 5) rfl gk_56 (by decide) (by decide) (rg_0 hJ2 hA2) ?_
  refine z_iload1 rfl ?_
  refine z_callSP (As := [_, _]) (v := sGone N n) rfl rfl (Nat.le_of_ble_eq_true rfl) (Nat.le_of_ble_eq_true rfl) (part_v (by omega) (by omega) (sPart_g hN)) ?_
  refine z_putI (y := 33) rfl rfl gk_50 ?_
  refine z_aload0 rfl ?_
  refine z_pushJ gp_187_59 ?_
  refine z_putI (y := 30) rfl rfl gk_50 ?_
  refine z_aload0 rfl ?_
  refine z_pushJ gp_187_64 ?_
  refine z_putI (y := 31) rfl rfl gk_50 ?_
  refine z_aload0 rfl ?_
  refine z_pushJ gp_187_69 ?_
  refine z_putI (y := 32) rfl rfl gk_50 ?_
  refine z_vret rfl gr_187 ?_
  exact ⟨rfl, zK_x (zK_x (zK_x (zK_x hk rfl) rfl) rfl) rfl, rfl, rfl, rfl, rfl, fun p p1 p2 => (hf p p1 p2).1, fun p p1 p2 => (hf p p1 p2).2, rfl, rfl⟩
theorem counts_k {X : Nat × (Nat → Int32)} {d : Nat} {J M : zA} {R : zR} {N : Int → Int → Int} {n : Int} (hR : zRoR R) (hA : rN J = N) (hz : J 50 1 = n) (hN : zNr n N) {s z : Int} {b : Int → Int} (hs : 0 ≤ s ∧ s < 6) (hb : ∀ i, 0 ≤ i → i < z → M 85 (60 * s + i) = b i) (hbr : ∀ i, 0 ≤ i → i < z → -128 ≤ b i ∧ b i ≤ 127) (hz0 : J 84 s = z) (hzr : 0 ≤ z ∧ z ≤ 60) {u : tR} {w g k : Int} {c : Int} (hr : rTr J n u w g) (hi : tI n u c) (hk : 0 ≤ k ∧ k ≤ 100) : zW X (d + 5) 194 0 (gEn 194 [(.ref 50), (zi s), (zi k)]) [] J M R (zPu (if (2 * k + 1 < z ∧ tC N n u (b (2 * k)) (b (2 * k + 1))) then 1 else 0) J M R) := by
  have hJ : zK kT J J := zK_r
  have q0 := zNn hN
  have i4 := hi.2.2.2.1
  show zW _ _ _ _ [some (.ref 50), some (zi s), some (zi k), none, none] _ _ _ _ _
  refine z_pushJ gp_194_0 ?_
  refine z_iload2 rfl ?_
  refine z_imul (e := 2 * k) rfl rfl ?_
  refine z_pushJ gp_194_3 ?_
  refine z_iadd (e := 2 * k + 1) rfl rfl ?_
  refine z_aload0 rfl ?_
  refine z_getR (r := 84) rfl gk_50 (hR _ rm_50_59 (by decide)) ?_
  refine z_iload1 rfl ?_
  refine z_iald (v := z) rfl gk_84 (by decide) (by omega) (hz0) ?_
  refine z_icmp_lt rfl (by omega) (by omega) (fun h1 => ?_) (fun h1 => ?_)
  · refine z_aload0 rfl ?_
    refine z_iload1 rfl ?_
    refine z_pushJ gp_194_18 ?_
    refine z_iload2 rfl ?_
    refine z_imul (e := 2 * k) rfl rfl ?_
    refine z_cV2 rfl gk_50 go_193 (Nat.le_of_ble_eq_true rfl) gc_193_RII ?_
    refine z_aload0 gi_193_0 ?_
    refine z_getR (r := 85) gi_193_1 gk_50 (hR _ rm_50_60 (by decide)) ?_
    refine z_pushJ gp_193_4 ?_
    refine z_iload1 gi_193_6 ?_
    refine z_imul (e := 60 * s) gi_193_7 rfl ?_
    refine z_iload2 gi_193_8 ?_
    refine z_iadd (e := 60 * s + 2 * k) gi_193_9 rfl ?_
    have q2 := hbr (2 * k) (by omega) (by omega)
    refine z_lald (v := b (2 * k)) gi_193_10 gk_85 (by decide) (by omega) (hb _ (by omega) (by omega)) ?_
    refine z_l2i gi_193_11 ?_
    refine z_iret gi_193_12 gr_193 ?_
    show zW _ _ _ _ _ _ _ _ _ _
    refine z_istore (ls1 := [some (.ref 50), some (zi s), some (zi k), some (zi (b (2 * k))), none]) rfl rfl ?_
    refine z_aload0 rfl ?_
    refine z_iload1 rfl ?_
    refine z_pushJ gp_194_27 ?_
    refine z_iload2 rfl ?_
    refine z_imul (e := 2 * k) rfl rfl ?_
    refine z_pushJ gp_194_30 ?_
    refine z_iadd (e := 2 * k + 1) rfl rfl ?_
    refine z_cV2 rfl gk_50 go_193 (Nat.le_of_ble_eq_true rfl) gc_193_RII ?_
    refine z_aload0 gi_193_0 ?_
    refine z_getR (r := 85) gi_193_1 gk_50 (hR _ rm_50_60 (by decide)) ?_
    refine z_pushJ gp_193_4 ?_
    refine z_iload1 gi_193_6 ?_
    refine z_imul (e := 60 * s) gi_193_7 rfl ?_
    refine z_iload2 gi_193_8 ?_
    refine z_iadd (e := 60 * s + (2 * k + 1)) gi_193_9 rfl ?_
    have q3 := hbr (2 * k + 1) (by omega) (by omega)
    refine z_lald (v := b (2 * k + 1)) gi_193_10 gk_85 (by decide) (by omega) (hb _ (by omega) (by omega)) ?_
    refine z_l2i gi_193_11 ?_
    refine z_iret gi_193_12 gr_193 ?_
    show zW _ _ _ _ _ _ _ _ _ _
    refine z_istore (ls1 := [some (.ref 50), some (zi s), some (zi k), some (zi (b (2 * k))), some (zi (b (2 * k + 1)))]) rfl rfl ?_
    refine z_aload0 rfl ?_
    refine z_iload3 rfl ?_
    refine z_cV1 rfl gk_50 go_151 (Nat.le_of_ble_eq_true rfl) gc_151_RI ?_
    refine z_iload1 gi_151_0 ?_
    refine z_pushJ gp_151_1 ?_
    refine z_aload0 gi_151_2 ?_
    refine z_getI (v := n) gi_151_3 gk_50 ((hJ 50 1 rfl).trans hz) ?_
    refine z_pushJ gp_151_6 ?_
    refine z_isub (e := n - 1) gi_151_7 rfl ?_
    refine z_cS3 gi_151_8 (Nat.le_of_ble_eq_true rfl) gc_148_III ?_
    refine z_iload0 gi_148_0 ?_
    refine z_iload1 gi_148_1 ?_
    refine z_icmp_lt gi_148_2 (by omega) zr_0 (fun h4 => ?_) (fun h4 => ?_)
    · refine z_pushJ gp_148_14 ?_
      refine z_bret0 gi_148_15 gr_148 ?_
      show zW _ _ _ _ _ _ _ _ _ _
      refine z_bret0 gi_151_11 gr_151 ?_
      show zW _ _ _ _ _ _ _ _ _ _
      refine z_if_eqT gi_194_42 zr_0 (by decide) ?_
      refine z_pushJ gp_194_70 ?_
      refine z_bret0 gi_194_71 gr_194 ?_
      refine ⟨congrArg (fun v => some (zi v)) ?_, rfl, rfl, rfl⟩
      rw [if_neg (by unfold tC tst; omega)]
    · refine z_iload0 gi_148_5 ?_
      refine z_iload2 gi_148_6 ?_
      refine z_icmp_gt gi_148_7 (by omega) (by omega) (fun h5 => ?_) (fun h5 => ?_)
      · refine z_pushJ gp_148_14 ?_
        refine z_bret0 gi_148_15 gr_148 ?_
        show zW _ _ _ _ _ _ _ _ _ _
        refine z_bret0 gi_151_11 gr_151 ?_
        show zW _ _ _ _ _ _ _ _ _ _
        refine z_if_eqT gi_194_42 zr_0 (by decide) ?_
        refine z_pushJ gp_194_70 ?_
        refine z_bret0 gi_194_71 gr_194 ?_
        refine ⟨congrArg (fun v => some (zi v)) ?_, rfl, rfl, rfl⟩
        rw [if_neg (by unfold tC tst; omega)]
      · refine z_pushJ gp_148_10 ?_
        refine z_goto gi_148_11 ?_
        refine z_bret1 gi_148_15 gr_148 ?_
        show zW _ _ _ _ _ _ _ _ _ _
        refine z_bret1 gi_151_11 gr_151 ?_
        show zW _ _ _ _ _ _ _ _ _ _
        refine z_if_eqF gi_194_42 zr_1 (by decide) ?_
        refine z_iload4 rfl ?_
        refine z_pushJ gp_194_47 ?_
        refine z_pushJ gp_194_48 ?_
        refine z_cS3 rfl (Nat.le_of_ble_eq_true rfl) gc_148_III ?_
        refine z_iload0 gi_148_0 ?_
        refine z_iload1 gi_148_1 ?_
        refine z_icmp_lt gi_148_2 (by omega) zr_1 (fun h6 => ?_) (fun h6 => ?_)
        · refine z_pushJ gp_148_14 ?_
          refine z_bret0 gi_148_15 gr_148 ?_
          show zW _ _ _ _ _ _ _ _ _ _
          refine z_if_eqT gi_194_53 zr_0 (by decide) ?_
          refine z_pushJ gp_194_70 ?_
          refine z_bret0 gi_194_71 gr_194 ?_
          refine ⟨congrArg (fun v => some (zi v)) ?_, rfl, rfl, rfl⟩
          rw [if_neg (by unfold tC tst; omega)]
        · refine z_iload0 gi_148_5 ?_
          refine z_iload2 gi_148_6 ?_
          refine z_icmp_gt gi_148_7 (by omega) zr_99 (fun h7 => ?_) (fun h7 => ?_)
          · refine z_pushJ gp_148_14 ?_
            refine z_bret0 gi_148_15 gr_148 ?_
            show zW _ _ _ _ _ _ _ _ _ _
            refine z_if_eqT gi_194_53 zr_0 (by decide) ?_
            refine z_pushJ gp_194_70 ?_
            refine z_bret0 gi_194_71 gr_194 ?_
            refine ⟨congrArg (fun v => some (zi v)) ?_, rfl, rfl, rfl⟩
            rw [if_neg (by unfold tC tst; omega)]
          · refine z_pushJ gp_148_10 ?_
            refine z_goto gi_148_11 ?_
            refine z_bret1 gi_148_15 gr_148 ?_
            show zW _ _ _ _ _ _ _ _ _ _
            refine z_if_eqF gi_194_53 zr_1 (by decide) ?_
            refine z_aload0 rfl ?_
            refine z_iload3 rfl ?_
            refine z_iload4 rfl ?_
            refine z_cV2 rfl gk_50 go_190 (Nat.le_of_ble_eq_true rfl) gc_190_RII ?_
            refine z_aload0 gi_190_0 ?_
            refine z_getI (v := tmi u) gi_190_1 gk_50 (hr.2.2.1) ?_
            refine z_aload0 gi_190_4 ?_
            refine z_iload1 gi_190_5 ?_
            refine z_callVP (As := [_]) (v := sWay N (tat u) (b (2 * k))) gi_190_6 rfl gk_50 (Nat.le_of_ble_eq_true rfl) (Nat.le_of_ble_eq_true rfl) (wayTo_s hR hA hz hN hr (by omega) hi.2.2.1) ?_
            have q8 := sWay_r hN (f := tat u) (p := b (2 * k))
            refine z_iadd (e := (tmi u) + (sWay N (tat u) (b (2 * k)))) gi_190_9 rfl ?_
            refine z_iload2 gi_190_10 ?_
            refine z_iadd (e := (tmi u) + (sWay N (tat u) (b (2 * k))) + (b (2 * k + 1))) gi_190_11 rfl ?_
            refine z_pushJ gp_190_12 ?_
            refine z_icmp_gt gi_190_15 (by omega) (by decide) (fun h9 => ?_) (fun h9 => ?_)
            · refine z_pushJ gp_190_22 ?_
              refine z_bret0 gi_190_23 gr_190 ?_
              show zW _ _ _ _ _ _ _ _ _ _
              refine z_if_eqT gi_194_63 zr_0 (by decide) ?_
              refine z_pushJ gp_194_70 ?_
              refine z_bret0 gi_194_71 gr_194 ?_
              refine ⟨congrArg (fun v => some (zi v)) ?_, rfl, rfl, rfl⟩
              rw [if_neg (by unfold tC tst; omega)]
            · refine z_pushJ gp_190_18 ?_
              refine z_goto gi_190_19 ?_
              refine z_bret1 gi_190_23 gr_190 ?_
              show zW _ _ _ _ _ _ _ _ _ _
              refine z_if_eqF gi_194_63 zr_1 (by decide) ?_
              refine z_pushJ gp_194_66 ?_
              refine z_goto rfl ?_
              refine z_bret1 gi_194_71 gr_194 ?_
              refine ⟨congrArg (fun v => some (zi v)) ?_, rfl, rfl, rfl⟩
              rw [if_pos (by unfold tC tst; omega)]
  · refine z_pushJ gp_194_14 ?_
    refine z_bret0 rfl gr_194 ?_
    refine ⟨congrArg (fun v => some (zi v)) ?_, rfl, rfl, rfl⟩
    rw [if_neg (by unfold tC tst; omega)]
theorem goRound_z {X : Nat × (Nat → Int32)} {d : Nat} {J0 M : zA} {R : zR} {N : Int → Int → Int} {n : Int} (hR : zRoR R) (hA : rN J0 = N) (hz : J0 50 1 = n) (hN : zNr n N) {T : zX} (hT : LawR X J0 T) (hTr : Tok T) {s z : Int} {b : Int → Int} (hs : 0 ≤ s ∧ s < 6) (hb : ∀ i, 0 ≤ i → i < z → M 85 (60 * s + i) = b i) (hbr : ∀ i, 0 ≤ i → i < z → -128 ≤ b i ∧ b i ≤ 127) (hz0 : J0 84 s = z) (hzr : 0 ≤ z ∧ z ≤ 60) {w most : Int} (hm : 0 ≤ most ∧ most ≤ 60) (hw2 : 0 ≤ w ∧ w ≤ 1000000) : ∀ (j k : Nat) (J : zA), zK kQ J0 J → rTr J n (tS T N n b w k) w (sGone N n) → (∀ i, i < k → tOk T N n b w z i) → (k + j = 31 ∧ (k : Int) ≤ most) → zW X (d + 8) 195 23 [some (.ref 50), some (zi s), some (zi most), some (zi (k : Int))] [] J M R (fun r J2 M2 R2 => ∃ K : Nat, r = some (zi (K : Int)) ∧ (∀ k, k < K → tOk T N n b w z k) ∧ ((K : Int) = most ∨ ¬ tOk T N n b w z K) ∧ (K ≤ 30 ∧ (K : Int) ≤ most) ∧ zK kQ J0 J2 ∧ rTr J2 n (tS T N n b w K) w (sGone N n) ∧ M2 = M ∧ R2 = R) := by
  intro j
  induction j with
  | zero =>
    intro k J hk hr hok hj
    exfalso
    have := (hok 30 (by omega)).1
    omega
  | succ j ih =>
    intro k J hk hr hok hj
    have hA2 : rN J = N := (rN_Q hk).trans hA
    have hz2 : J 50 1 = n := (hk 50 1 rfl).trans hz
    have hz2s : J 84 s = z := (hk 84 s rfl).trans hz0
    have hi := tS_r (T := T) (n := n) (b := b) (w := w) (z := z) hN k hok
    have hk30 : k ≤ 30 := by omega
    refine z_iload3 rfl ?_
    refine z_iload2 rfl ?_
    refine z_icmp_ge rfl (by omega) (by omega) (fun h1 => ?_) (fun h1 => ?_)
    · refine z_iload3 gi_195_65 ?_
      refine z_iret gi_195_66 gr_195 ?_
      refine ⟨k, rfl, hok, ?_, by omega, hk, hr, rfl, rfl⟩
      first | exact Or.inr hC | exact Or.inl (by omega)
    · refine z_aload0 rfl ?_
      refine z_iload1 rfl ?_
      refine z_iload3 rfl ?_
      refine z_callVP (As := [_, _]) (v := if (2 * (k : Int) + 1 < z ∧ tC N n (tS T N n b w k) (b (2 * (k : Int))) (b (2 * (k : Int) + 1))) then 1 else 0) rfl rfl rfl (Nat.le_of_ble_eq_true rfl) (Nat.le_of_ble_eq_true rfl) (counts_k (u := (tS T N n b w k)) (w := w) (b := b) hR hA2 hz2 hN hs hb hbr hz2s hzr hr hi.1 (by omega)) ?_
      by_cases hC : (2 * (k : Int) + 1 < z ∧ tC N n (tS T N n b w k) (b (2 * (k : Int))) (b (2 * (k : Int) + 1)))
      · rw [if_pos hC]
        show zW _ _ _ _ _ (_ :: _) _ _ _ _
        refine z_if_eqF gi_195_34 zr_1 (by decide) ?_
        refine z_aload0 rfl ?_
        refine z_aload0 rfl ?_
        refine z_iload1 rfl ?_
        refine z_pushJ gp_195_40 ?_
        refine z_iload3 rfl ?_
        refine z_imul (e := 2 * (k : Int)) rfl rfl ?_
        refine z_cV2 rfl gk_50 go_193 (Nat.le_of_ble_eq_true rfl) gc_193_RII ?_
        refine z_aload0 gi_193_0 ?_
        refine z_getR (r := 85) gi_193_1 gk_50 (hR _ rm_50_60 (by decide)) ?_
        refine z_pushJ gp_193_4 ?_
        refine z_iload1 gi_193_6 ?_
        refine z_imul (e := 60 * s) gi_193_7 rfl ?_
        refine z_iload2 gi_193_8 ?_
        refine z_iadd (e := 60 * s + 2 * (k : Int)) gi_193_9 rfl ?_
        have q2 := hbr (2 * (k : Int)) (by omega) (by omega)
        refine z_lald (v := b (2 * (k : Int))) gi_193_10 gk_85 (by decide) (by omega) (hb _ (by omega) (by omega)) ?_
        refine z_l2i gi_193_11 ?_
        refine z_iret gi_193_12 gr_193 ?_
        show zW _ _ _ _ _ _ _ _ _ _
        refine z_aload0 rfl ?_
        refine z_iload1 rfl ?_
        refine z_pushJ gp_195_48 ?_
        refine z_iload3 rfl ?_
        refine z_imul (e := 2 * (k : Int)) rfl rfl ?_
        refine z_pushJ gp_195_51 ?_
        refine z_iadd (e := 2 * (k : Int) + 1) rfl rfl ?_
        refine z_cV2 rfl gk_50 go_193 (Nat.le_of_ble_eq_true rfl) gc_193_RII ?_
        refine z_aload0 gi_193_0 ?_
        refine z_getR (r := 85) gi_193_1 gk_50 (hR _ rm_50_60 (by decide)) ?_
        refine z_pushJ gp_193_4 ?_
        refine z_iload1 gi_193_6 ?_
        refine z_imul (e := 60 * s) gi_193_7 rfl ?_
        refine z_iload2 gi_193_8 ?_
        refine z_iadd (e := 60 * s + (2 * (k : Int) + 1)) gi_193_9 rfl ?_
        have q3 := hbr (2 * (k : Int) + 1) (by omega) (by omega)
        refine z_lald (v := b (2 * (k : Int) + 1)) gi_193_10 gk_85 (by decide) (by omega) (hb _ (by omega) (by omega)) ?_
        refine z_l2i gi_193_11 ?_
        refine z_iret gi_193_12 gr_193 ?_
        show zW _ _ _ _ _ _ _ _ _ _
        refine z_callV (As := [_, _]) _ rfl rfl rfl (Nat.le_of_ble_eq_true rfl) (Nat.le_of_ble_eq_true rfl) (goTo_k (s := (tS T N n b w k)) (k := k) (w := w) hR hA2 hz2 hN (LawR_Q hT hk) hTr hr hw2 hi.1 (by omega) hC.2) (fun r J2 M2 R2 hr2 => ?_)
        obtain ⟨rfl, hk2, hr3, rfl, rfl⟩ := hr2
        show zW _ _ _ _ _ _ _ _ _ _
        refine z_iinc (c := 1) (e := (k : Int) + 1) (ls1 := [some (.ref 50), some (zi s), some (zi most), some (zi ((k : Int) + 1))]) rfl rfl rfl rfl rfl ?_
        refine z_goto rfl ?_
        show zW _ _ _ _ [some (.ref 50), some (zi s), some (zi most), some (zi ((k : Int) + 1))] [] _ _ _ _
        refine ih (k + 1) J2 (zK_t hk hk2) hr3 (fun i hi2 => ?_) (by omega)
        by_cases e : i = k
        · subst e
          exact hC
        · exact hok i (by omega)
      · rw [if_neg hC]
        show zW _ _ _ _ _ (_ :: _) _ _ _ _
        refine z_if_eqT gi_195_34 zr_0 (by decide) ?_
        refine z_iload3 gi_195_65 ?_
        refine z_iret gi_195_66 gr_195 ?_
        refine ⟨k, rfl, hok, ?_, by omega, hk, hr, rfl, rfl⟩
        first | exact Or.inr hC | exact Or.inl (by omega)
theorem goRound_k {X : Nat × (Nat → Int32)} {d : Nat} {J M : zA} {R : zR} {N : Int → Int → Int} {n : Int} (hR : zRoR R) (hA : rN J = N) (hz : J 50 1 = n) (hN : zNr n N) {T : zX} (hT : LawR X J T) (hTr : Tok T) {s z : Int} {b : Int → Int} (hs : 0 ≤ s ∧ s < 6) (hb : ∀ i, 0 ≤ i → i < z → M 85 (60 * s + i) = b i) (hbr : ∀ i, 0 ≤ i → i < z → -128 ≤ b i ∧ b i ≤ 127) (hz0 : J 84 s = z) (hzr : 0 ≤ z ∧ z ≤ 60) {w most : Int} (hm : 0 ≤ most ∧ most ≤ 60) (hw : J 50 35 = w) (hw2 : 0 ≤ w ∧ w ≤ 1000000) : zW X (d + 8) 195 0 (gEn 195 [(.ref 50), (zi s), (zi most)]) [] J M R (fun r J2 M2 R2 => ∃ K : Nat, r = some (zi (K : Int)) ∧ (∀ k, k < K → tOk T N n b w z k) ∧ ((K : Int) = most ∨ ¬ tOk T N n b w z K) ∧ (K ≤ 30 ∧ (K : Int) ≤ most) ∧ zK kQ J J2 ∧ rTr J2 n (tS T N n b w K) w (sGone N n) ∧ M2 = M ∧ R2 = R) := by
  show zW _ _ _ _ [some (.ref 50), some (zi s), some (zi most), none] _ _ _ _ _
  refine z_aload0 rfl ?_
  refine z_callV (As := []) _ rfl rfl rfl (Nat.le_of_ble_eq_true rfl) (Nat.le_of_ble_eq_true rfl) (beginR_k hR hA hz hN) (fun r J2 M2 R2 hr => ?_)
  obtain ⟨rfl, hk, d30, d31, d32, d33, d69, d70, rfl, rfl⟩ := hr
  show zW _ _ _ _ _ _ _ _ _ _
  refine z_aload0 rfl ?_
  refine z_aload0 rfl ?_
  refine z_getI (v := w) rfl gk_50 ((hk 50 35 rfl).trans hw) ?_
  refine z_if_ne rfl (by omega) (fun h1 => ?_) (fun h1 => ?_)
  · refine z_pushJ gp_195_16 ?_
    refine z_putI (y := 34) gi_195_18 rfl gk_50 ?_
    refine z_pushJ gp_195_21 ?_
    refine z_istore (ls1 := [some (.ref 50), some (zi s), some (zi most), some (zi 0)]) gi_195_22 rfl ?_
    show zW _ _ _ _ [some (.ref 50), some (zi s), some (zi most), some (zi 0)] [] _ _ _ _
    refine goRound_z hR hA hz hN hT hTr hs hb hbr hz0 hzr hm hw2 31 0 _ (zK_x hk rfl) ⟨d33, d30, d31, d32, ?_, (hk 50 35 rfl).trans hw, fun p p1 p2 => ?_, fun p p1 p2 => d70 p p1 p2⟩ (fun i hi => by omega) ⟨by omega, by omega⟩
    · show (-2) = (if w ≤ 0 then (0 : Int) else -2)
      split <;> first | rfl | (exfalso; omega)
    · refine (d69 p p1 p2).trans ?_
      show _ = (if 0 ≤ p ∧ p < n then sShare N n p else 0)
      rw [if_pos ⟨p1, p2⟩]
  · refine z_pushJ gp_195_12 ?_
    refine z_goto rfl ?_
    refine z_putI (y := 34) gi_195_18 rfl gk_50 ?_
    refine z_pushJ gp_195_21 ?_
    refine z_istore (ls1 := [some (.ref 50), some (zi s), some (zi most), some (zi 0)]) gi_195_22 rfl ?_
    show zW _ _ _ _ [some (.ref 50), some (zi s), some (zi most), some (zi 0)] [] _ _ _ _
    refine goRound_z hR hA hz hN hT hTr hs hb hbr hz0 hzr hm hw2 31 0 _ (zK_x hk rfl) ⟨d33, d30, d31, d32, ?_, (hk 50 35 rfl).trans hw, fun p p1 p2 => ?_, fun p p1 p2 => d70 p p1 p2⟩ (fun i hi => by omega) ⟨by omega, by omega⟩
    · show 0 = (if w ≤ 0 then (0 : Int) else -2)
      split <;> first | rfl | (exfalso; omega)
    · refine (d69 p p1 p2).trans ?_
      show _ = (if 0 ≤ p ∧ p < n then sShare N n p else 0)
      rw [if_pos ⟨p1, p2⟩]
