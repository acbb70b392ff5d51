/-- all but the text's and the trip's rows of work -/
noncomputable def kP (x : Nat) (j : Int) : Bool := kT x j && !(Nat.ble 10 x && Nat.ble x 17)
theorem kP_T : ∀ x j, kP x j = true → kT x j = true := by
  intro x j h
  unfold kP at h
  exact (Bool.and_eq_true _ _ ▸ h).1
theorem kP_o {x : Nat} {j : Int} (h : kT x j = true) (h2 : x < 10 ∨ 17 < x) : kP x j = true := by
  unfold kP
  rw [h]
  rcases h2 with h2 | h2
  · rw [show Nat.ble 10 x = false from by cases e : Nat.ble 10 x with
      | false => rfl
      | true => exact absurd (Nat.le_of_ble_eq_true e) (by omega)]
    rfl
  · rw [show Nat.ble x 17 = false from by cases e : Nat.ble x 17 with
      | false => rfl
      | true => exact absurd (Nat.le_of_ble_eq_true e) (by omega)]
    cases Nat.ble 10 x <;> rfl
noncomputable def zG (B : zA) (p s l f m b : Int) : zA := fun x j => if x = 11 then (if j = p then s else B 11 j) else if x = 12 then (if j = p then l else B 12 j) else if x = 10 then (if j = 9 then f else if j = 10 then m else if j = 13 then b else B 10 j) else B x j
theorem zG_11 {B : zA} {p s l f m b : Int} : zG B p s l f m b 11 p = s := by unfold zG; rw [if_pos rfl, if_pos rfl]
theorem zG_12 {B : zA} {p s l f m b : Int} : zG B p s l f m b 12 p = l := by unfold zG; rw [if_neg (by decide), if_pos rfl, if_pos rfl]
theorem zG_11i {B : zA} {p s l f m b x : Int} : zG B p s l f m b 11 x = if x = p then s else B 11 x := by unfold zG; rw [if_pos rfl]
theorem zG_12i {B : zA} {p s l f m b x : Int} : zG B p s l f m b 12 x = if x = p then l else B 12 x := by unfold zG; rw [if_neg (by decide), if_pos rfl]
theorem zG_n {B : zA} {p s l f m b x : Int} {y : Nat} (h : y < 10 ∨ 12 < y) : zG B p s l f m b y x = B y x := by unfold zG; rw [if_neg (by omega), if_neg (by omega), if_neg (by omega)]
theorem zG_10i {B : zA} {p s l f m b x : Int} : zG B p s l f m b 10 x = if x = 9 then f else if x = 10 then m else if x = 13 then b else B 10 x := by unfold zG; rw [if_neg (by decide), if_neg (by decide), if_pos rfl]
theorem zG_s {B : zA} {p s l f m b v : Int} : zU (zG B p s l f m b) 11 p v = zG B p v l f m b := by
  funext x j
  by_cases h : x = 11
  · subst h
    rw [zU_i, zG_11i, zG_11i]
    (repeat' split) <;> first | rfl | (exfalso; omega)
  · rw [zU_n h]
    unfold zG
    (repeat' split) <;> first | rfl | contradiction
theorem zG_l {B : zA} {p s l f m b v : Int} : zU (zG B p s l f m b) 12 p v = zG B p s v f m b := by
  funext x j
  by_cases h : x = 12
  · subst h
    rw [zU_i, zG_12i, zG_12i]
    (repeat' split) <;> first | rfl | (exfalso; omega)
  · rw [zU_n h]
    unfold zG
    (repeat' split) <;> first | rfl | contradiction
theorem zG_f {B : zA} {p s l f m b v : Int} : zU (zG B p s l f m b) 10 9 v = zG B p s l v m b := by
  funext x j
  by_cases h : x = 10
  · subst h
    rw [zU_i, zG_10i, zG_10i]
    (repeat' split) <;> first | rfl | (exfalso; omega)
  · rw [zU_n h]
    unfold zG
    (repeat' split) <;> first | rfl | contradiction
theorem zG_m {B : zA} {p s l f m b v : Int} : zU (zG B p s l f m b) 10 10 v = zG B p s l f v b := by
  funext x j
  by_cases h : x = 10
  · subst h
    rw [zU_i, zG_10i, zG_10i]
    (repeat' split) <;> first | rfl | (exfalso; omega)
  · rw [zU_n h]
    unfold zG
    (repeat' split) <;> first | rfl | contradiction
theorem zG_b {B : zA} {p s l f m b v : Int} : zU (zG B p s l f m b) 10 13 v = zG B p s l f m v := by
  funext x j
  by_cases h : x = 10
  · subst h
    rw [zU_i, zG_10i, zG_10i]
    (repeat' split) <;> first | rfl | (exfalso; omega)
  · rw [zU_n h]
    unfold zG
    (repeat' split) <;> first | rfl | contradiction
theorem zG_is {B : zA} {p s l f m b : Int} (h1 : B 11 p = s) (h2 : B 12 p = l) (h3 : B 10 9 = f) (h4 : B 10 10 = m) (h5 : B 10 13 = b) : zG B p s l f m b = B := by
  funext x j
  unfold zG
  (repeat' split) <;> first | rfl | (subst_vars; first | rfl | assumption | (symm; assumption))
theorem left1_k {X : Nat × (Nat → Int32)} {d : Nat} {J M : zA} {R : zR} {A : zA} {N : Int → Int → Int} {n : Int} (hR : zRok R) (hJ : zK kT A J) (hA : cN A = N) (hz : A 8 2 = n) (hN : zNr n N) {T : zX} (hT : LawC X A R T) (hTr : Tok T) {s p k m : Int} (hs : 0 ≤ s ∧ s ≤ 1000000) (hp : -2147483648 ≤ p ∧ p < 2147483648) (hk : 0 ≤ k ∧ k ≤ 100000000) (hm : 0 ≤ m ∧ m ≤ 1200) : zW X (d + 6) 99 0 (gEn 99 [.ref 8, zi 1, zi s, zi p, zi k, zi m]) [] J M R (zPk (lf T N s p k m) A M R) := leftBehind_k (c := 1) hR hJ hA hz hN hT hTr (by omega) hs hp hk hm
theorem goOn_z {X : Nat × (Nat → Int32)} {d : Nat} {M : zA} {R : zR} {P : zP} {B : zA} {N : Int → Int → Int} {n : Int} (hR : zRok R) (hA : cN B = N) (hz : B 8 2 = n) (hN : zNr n N) {T : zX} (hT : LawC X B R T) (hTr : Tok T) {c : Nat} {p w st : Int} (hc : c ≤ 99) (hp : 0 ≤ p ∧ p < 8) (hw : B 10 12 = w) (hw2 : 0 ≤ w ∧ w ≤ 1000000) : ∀ (j : Nat) (i s l m f b : Int) (e5 : Option Value) (J : zA), zK kT (zG B p s l f m b) J → i + j = c → 0 ≤ i → (0 ≤ s ∧ s ≤ 1000000) → (0 ≤ l ∧ l + j ≤ 10000) → (0 ≤ m ∧ m + j ≤ 1000) → (0 ≤ f ∧ f + s ≤ 100000000) → (-2 ≤ b ∧ b ≤ 1000) → (∀ (J2 : zA) (e5 : Option Value), zK kT (zG B p (lB T N p j s l m) (l + j) (f + (s - lB T N p j s l m)) (m + j) (tB T N p w j s l m f b)) J2 → zW X (d + 7) 80 227 [some (.ref 10), some (zi p), some (zi (c : Int)), some (zi st), some (zi (c : Int)), e5] [] J2 M R P) → zW X (d + 7) 80 116 [some (.ref 10), some (zi p), some (zi (c : Int)), some (zi st), some (zi i), e5] [] J M R P := by
  intro j
  induction j with
  | zero =>
    intro i s l m f b e5 J hJ hi h0 hs hl hm hf hb K
    refine z_iload rfl rfl ?_
    refine z_iload rfl rfl ?_
    refine z_icmp_geT rfl (by omega) (by omega) (by omega) ?_
    rw [show i = (c : Int) by omega]
    refine K J e5 ?_
    rw [show l + ((0 : Nat) : Int) = l by omega, show m + ((0 : Nat) : Int) = m by omega, show f + (s - lB T N p 0 s l m) = f by (show f + (s - s) = f); omega]
    exact hJ
  | succ j ih =>
    intro i s l m f b e5 J hJ hi h0 hs hl hm hf hb K
    have hT2 : LawC X (zG B p s l f m b) R T := LawC_A hT rfl (fun _ => rfl) (fun _ => rfl) (fun _ => rfl) (fun _ => rfl)
    refine z_iload4 rfl ?_
    refine z_iload2 rfl ?_
    refine z_icmp_geF rfl (by omega) (by omega) (by omega) ?_
    refine z_aload0 rfl ?_
    refine z_getR (r := 8) rfl gk_10 (hR _ rm_10_0) ?_
    refine z_pushJ gp_80_126 ?_
    refine z_aload0 rfl ?_
    refine z_getR (r := 11) rfl gk_10 (hR _ rm_10_1) ?_
    refine z_iload1 rfl ?_
    refine z_iald (v := s) rfl gk_11 (by decide) (by omega) ((hJ 11 p rfl).trans zG_11) ?_
    refine z_iload1 rfl ?_
    refine z_aload0 rfl ?_
    refine z_getR (r := 12) rfl gk_10 (hR _ rm_10_2) ?_
    refine z_iload1 rfl ?_
    refine z_iald (v := l) rfl gk_12 (by decide) (by omega) ((hJ 12 p rfl).trans zG_12) ?_
    refine z_aload0 rfl ?_
    refine z_getI (v := m) rfl gk_10 (hJ 10 10 rfl) ?_
    refine z_callVk (As := [_, _, _, _, _]) (v := lf T N s p l m) rfl rfl gk_8 (Nat.le_of_ble_eq_true rfl) (Nat.le_of_ble_eq_true rfl) (left1_k hR hJ hA hz hN hT2 hTr (by omega) (by omega) (by omega) (by omega)) (fun J1 hJ1 => ?_)
    have q2 := @lf_r T N s p l m (by omega)
    refine z_istore (ls1 := [some (.ref 10), some (zi p), some (zi (c : Int)), some (zi st), some (zi i), some (zi (lf T N s p l m))]) rfl rfl ?_
    refine z_aload0 rfl ?_
    refine z_dup rfl rfl ?_
    refine z_getI (v := f) rfl gk_10 (hJ1 10 9 rfl) ?_
    refine z_aload0 rfl ?_
    refine z_getR (r := 11) rfl gk_10 (hR _ rm_10_1) ?_
    refine z_iload1 rfl ?_
    refine z_iald (v := s) rfl gk_11 (by decide) (by omega) ((hJ1 11 p rfl).trans zG_11) ?_
    refine z_iload5 rfl ?_
    refine z_isub (e := s - (lf T N s p l m)) rfl rfl ?_
    refine z_iadd (e := f + (s - (lf T N s p l m))) rfl rfl ?_
    refine z_putI (y := 9) rfl rfl gk_10 ?_
    refine z_aload0 rfl ?_
    refine z_getR (r := 11) rfl gk_10 (hR _ rm_10_1) ?_
    refine z_iload1 rfl ?_
    refine z_iload5 rfl ?_
    refine z_iast (e := lf T N s p l m) rfl gk_11 (by decide) (by omega) rfl ?_
    refine z_aload0 rfl ?_
    refine z_getR (r := 12) rfl gk_10 (hR _ rm_10_2) ?_
    refine z_iload1 rfl ?_
    refine z_dup2 rfl rfl rfl ?_
    refine z_iald (v := l) rfl gk_12 (by decide) (by omega) ((zU_n (by decide)).trans ((zU_n (by decide)).trans ((hJ1 12 p rfl).trans zG_12))) ?_
    refine z_pushJ gp_80_182 ?_
    refine z_iadd (e := l + 1) rfl rfl ?_
    refine z_iast (e := l + 1) rfl gk_12 (by decide) (by omega) rfl ?_
    refine z_aload0 rfl ?_
    refine z_dup rfl rfl ?_
    refine z_getI (v := m) rfl gk_10 ((zU_n (by decide)).trans ((zU_n (by decide)).trans ((zU_x (by decide)).trans (hJ1 10 10 rfl)))) ?_
    refine z_pushJ gp_80_190 ?_
    refine z_iadd (e := m + 1) rfl rfl ?_
    refine z_putI (y := 10) rfl rfl gk_10 ?_
    refine z_aload0 rfl ?_
    refine z_getI (v := b) rfl gk_10 ((zU_x (by decide)).trans ((zU_n (by decide)).trans ((zU_n (by decide)).trans ((zU_x (by decide)).trans (hJ1 10 13 rfl))))) ?_
    refine z_if_ge rfl (by omega) (fun h3 => ?_) (fun h3 => ?_)
    · refine z_iinc (c := 1) (e := i + 1) (ls1 := [some (.ref 10), some (zi p), some (zi (c : Int)), some (zi st), some (zi (i + 1)), some (zi (lf T N s p l m))]) gi_80_221 rfl rfl rfl rfl ?_
      refine z_goto gi_80_224 ?_
      show zW _ _ _ _ [some (.ref 10), some (zi p), some (zi (c : Int)), some (zi st), some (zi (i + 1)), some (zi (lf T N s p l m))] [] _ _ _ _
      have hk := (zK_u (a := 10) (x := 10) (v := m + 1) (zK_u (a := 12) (x := p) (v := l + 1) (zK_u (a := 11) (x := p) (v := lf T N s p l m) (zK_u (a := 10) (x := 9) (v := f + (s - (lf T N s p l m))) hJ1))))
      rw [zG_f, zG_s, zG_l, zG_m] at hk
      have eb : (if b < 0 ∧ w ≤ f + (s - lf T N s p l m) then m + 1 else b) = b := by split <;> first | rfl | (exfalso; omega) | omega
      refine ih (i + 1) (lf T N s p l m) (l + 1) (m + 1) (f + (s - lf T N s p l m)) (if b < 0 ∧ w ≤ f + (s - lf T N s p l m) then m + 1 else b) _ _ (by rw [eb]; exact hk) (by omega) (by omega) (by omega) (by omega) (by omega) (by omega) (by omega) (fun J2 e5 h2 => K J2 e5 ?_)
      rw [show l + 1 + (j : Int) = l + ((j + 1 : Nat) : Int) by omega, show m + 1 + (j : Int) = m + ((j + 1 : Nat) : Int) by omega, show f + (s - lf T N s p l m) + (lf T N s p l m - lB T N p j (lf T N s p l m) (l + 1) (m + 1)) = f + (s - lB T N p (j + 1) s l m) by (show _ = f + (s - lB T N p j (lf T N s p l m) (l + 1) (m + 1))); omega] at h2
      exact h2
    · refine z_aload0 rfl ?_
      refine z_getI (v := f + (s - (lf T N s p l m))) rfl gk_10 ((zU_x (by decide)).trans ((zU_n (by decide)).trans ((zU_n (by decide)).trans (zU_e)))) ?_
      refine z_aload0 rfl ?_
      refine z_getI (v := w) rfl gk_10 ((zU_x (by decide)).trans ((zU_n (by decide)).trans ((zU_n (by decide)).trans ((zU_x (by decide)).trans ((hJ1 10 12 rfl).trans hw))))) ?_
      refine z_icmp_lt rfl (by omega) (by omega) (fun h4 => ?_) (fun h4 => ?_)
      · refine z_iinc (c := 1) (e := i + 1) (ls1 := [some (.ref 10), some (zi p), some (zi (c : Int)), some (zi st), some (zi (i + 1)), some (zi (lf T N s p l m))]) gi_80_221 rfl rfl rfl rfl ?_
        refine z_goto gi_80_224 ?_
        show zW _ _ _ _ [some (.ref 10), some (zi p), some (zi (c : Int)), some (zi st), some (zi (i + 1)), some (zi (lf T N s p l m))] [] _ _ _ _
        have hk := (zK_u (a := 10) (x := 10) (v := m + 1) (zK_u (a := 12) (x := p) (v := l + 1) (zK_u (a := 11) (x := p) (v := lf T N s p l m) (zK_u (a := 10) (x := 9) (v := f + (s - (lf T N s p l m))) hJ1))))
        rw [zG_f, zG_s, zG_l, zG_m] at hk
        have eb : (if b < 0 ∧ w ≤ f + (s - lf T N s p l m) then m + 1 else b) = b := by split <;> first | rfl | (exfalso; omega) | omega
        refine ih (i + 1) (lf T N s p l m) (l + 1) (m + 1) (f + (s - lf T N s p l m)) (if b < 0 ∧ w ≤ f + (s - lf T N s p l m) then m + 1 else b) _ _ (by rw [eb]; exact hk) (by omega) (by omega) (by omega) (by omega) (by omega) (by omega) (by omega) (fun J2 e5 h2 => K J2 e5 ?_)
        rw [show l + 1 + (j : Int) = l + ((j + 1 : Nat) : Int) by omega, show m + 1 + (j : Int) = m + ((j + 1 : Nat) : Int) by omega, show f + (s - lf T N s p l m) + (lf T N s p l m - lB T N p j (lf T N s p l m) (l + 1) (m + 1)) = f + (s - lB T N p (j + 1) s l m) by (show _ = f + (s - lB T N p j (lf T N s p l m) (l + 1) (m + 1))); omega] at h2
        exact h2
      · refine z_aload0 rfl ?_
        refine z_aload0 rfl ?_
        refine z_getI (v := m + 1) rfl gk_10 (zU_e) ?_
        refine z_putI (y := 13) rfl rfl gk_10 ?_
        refine z_iinc (c := 1) (e := i + 1) (ls1 := [some (.ref 10), some (zi p), some (zi (c : Int)), some (zi st), some (zi (i + 1)), some (zi (lf T N s p l m))]) gi_80_221 rfl rfl rfl rfl ?_
        refine z_goto gi_80_224 ?_
        show zW _ _ _ _ [some (.ref 10), some (zi p), some (zi (c : Int)), some (zi st), some (zi (i + 1)), some (zi (lf T N s p l m))] [] _ _ _ _
        have hk := (zK_u (a := 10) (x := 13) (v := m + 1) (zK_u (a := 10) (x := 10) (v := m + 1) (zK_u (a := 12) (x := p) (v := l + 1) (zK_u (a := 11) (x := p) (v := lf T N s p l m) (zK_u (a := 10) (x := 9) (v := f + (s - (lf T N s p l m))) hJ1)))))
        rw [zG_f, zG_s, zG_l, zG_m, zG_b] at hk
        have eb : (if b < 0 ∧ w ≤ f + (s - lf T N s p l m) then m + 1 else b) = m + 1 := by split <;> first | rfl | (exfalso; omega) | omega
        refine ih (i + 1) (lf T N s p l m) (l + 1) (m + 1) (f + (s - lf T N s p l m)) (if b < 0 ∧ w ≤ f + (s - lf T N s p l m) then m + 1 else b) _ _ (by rw [eb]; exact hk) (by omega) (by omega) (by omega) (by omega) (by omega) (by omega) (by omega) (fun J2 e5 h2 => K J2 e5 ?_)
        rw [show l + 1 + (j : Int) = l + ((j + 1 : Nat) : Int) by omega, show m + 1 + (j : Int) = m + ((j + 1 : Nat) : Int) by omega, show f + (s - lf T N s p l m) + (lf T N s p l m - lB T N p j (lf T N s p l m) (l + 1) (m + 1)) = f + (s - lB T N p (j + 1) s l m) by (show _ = f + (s - lB T N p j (lf T N s p l m) (l + 1) (m + 1))); omega] at h2
        exact h2
/-- the class's trip holds a round, so many twos gone -/
def cTr (J : zA) (s : tR) (k w : Int) : Prop := J 10 8 = k ∧ J 10 9 = tfo s ∧ J 10 10 = tmi s ∧ J 10 11 = tat s ∧ J 10 12 = w ∧ J 10 13 = tmk s ∧ (∀ p, 0 ≤ p → p < 8 → J 11 p = tsh s p) ∧ (∀ p, 0 ≤ p → p < 8 → J 12 p = tli s p)
/-- and what it says of each two -/
def cTw (J : zA) (T : zX) (N : Int → Int → Int) (n : Int) (b : Int → Int) (w : Int) (K : Nat) : Prop := ∀ t : Nat, t < K → J 13 t = b (2 * t) ∧ J 14 t = tst N (tS T N n b w t) (b (2 * t)) ∧ J 15 t = b (2 * t + 1) ∧ J 16 t = tli (tS T N n b w t) (b (2 * t)) ∧ J 17 t = tfo (tS T N n b w (t + 1))
theorem cTr_k {J J2 : zA} {s : tR} {k w : Int} (h : cTr J s k w) (hk : zK kT J J2) : cTr J2 s k w := by
  obtain ⟨a, b, c, d, e, f, g, i⟩ := h
  exact ⟨(hk 10 8 rfl).trans a, (hk 10 9 rfl).trans b, (hk 10 10 rfl).trans c, (hk 10 11 rfl).trans d, (hk 10 12 rfl).trans e, (hk 10 13 rfl).trans f, fun p x y => (hk 11 p rfl).trans (g p x y), fun p x y => (hk 12 p rfl).trans (i p x y)⟩
theorem cTw_k {J J2 : zA} {T : zX} {N : Int → Int → Int} {n : Int} {b : Int → Int} {w : Int} {K : Nat} (h : cTw J T N n b w K) (hk : zK kT J J2) : cTw J2 T N n b w K := by
  intro t ht
  obtain ⟨a, b, c, d, e⟩ := h t ht
  exact ⟨(hk 13 t rfl).trans a, (hk 14 t rfl).trans b, (hk 15 t rfl).trans c, (hk 16 t rfl).trans d, (hk 17 t rfl).trans e⟩
theorem goOn_x {J : zA} {T : zX} {N : Int → Int → Int} {w p : Int} {s : tR} {k c : Nat} {x : Nat} {j : Int} (h : kP x j = true) : (zU (zU (zG (zU (zU (zU (zU (zU (zU J 13 (k : Int) p) 14 (k : Int) (tmi s + sWay N (tat s) p)) 15 (k : Int) (c : Int)) 16 (k : Int) (tli s p)) 10 11 p) 10 10 (tmi s + sWay N (tat s) p)) p (lB T N p c (tsh s p) (tli s p) (tst N s p)) (tli s p + (c : Int)) (tfo s + (tsh s p - lB T N p c (tsh s p) (tli s p) (tst N s p))) (tst N s p + (c : Int)) (tB T N p w c (tsh s p) (tli s p) (tst N s p) (tfo s) (tmk s))) 17 (k : Int) (tfo s + (tsh s p - lB T N p c (tsh s p) (tli s p) (tst N s p)))) 10 8 ((k : Int) + 1)) x j = J x j := by
  have a : ∀ y, x = 10 + y → 10 + y ≤ 17 → False := fun y e e2 => by
    subst e
    unfold kP at h
    rw [show Nat.ble 10 (10 + y) = true from Nat.ble_eq_true_of_le (by omega), show Nat.ble (10 + y) 17 = true from Nat.ble_eq_true_of_le e2] at h
    have h3 : (kT (10 + y) j && false) = true := h
    rw [Bool.and_false] at h3
    cases h3
  have b : ∀ y, 10 ≤ y → y ≤ 17 → x ≠ y := fun y h1 h2 e => a (y - 10) (by omega) (by omega)
  rw [zU_n (b 10 (by omega) (by omega)), zU_n (b 17 (by omega) (by omega)), zG_n (by have := b 10; have := b 11; have := b 12; omega), zU_n (b 10 (by omega) (by omega)), zU_n (b 10 (by omega) (by omega)), zU_n (b 16 (by omega) (by omega)), zU_n (b 15 (by omega) (by omega)), zU_n (b 14 (by omega) (by omega)), zU_n (b 13 (by omega) (by omega))]
theorem goOn_13 {J : zA} {T : zX} {N : Int → Int → Int} {w p : Int} {s : tR} {k c : Nat} {t : Int} (h : t ≠ (k : Int)) : (zU (zU (zG (zU (zU (zU (zU (zU (zU J 13 (k : Int) p) 14 (k : Int) (tmi s + sWay N (tat s) p)) 15 (k : Int) (c : Int)) 16 (k : Int) (tli s p)) 10 11 p) 10 10 (tmi s + sWay N (tat s) p)) p (lB T N p c (tsh s p) (tli s p) (tst N s p)) (tli s p + (c : Int)) (tfo s + (tsh s p - lB T N p c (tsh s p) (tli s p) (tst N s p))) (tst N s p + (c : Int)) (tB T N p w c (tsh s p) (tli s p) (tst N s p) (tfo s) (tmk s))) 17 (k : Int) (tfo s + (tsh s p - lB T N p c (tsh s p) (tli s p) (tst N s p)))) 10 8 ((k : Int) + 1)) 13 t = J 13 t := by rw [zU_n (by decide), zU_n (by decide), zG_n (by omega), zU_n (by decide), zU_n (by decide), zU_n (by decide), zU_n (by decide), zU_n (by decide), zU_x h]
theorem goOn_14 {J : zA} {T : zX} {N : Int → Int → Int} {w p : Int} {s : tR} {k c : Nat} {t : Int} (h : t ≠ (k : Int)) : (zU (zU (zG (zU (zU (zU (zU (zU (zU J 13 (k : Int) p) 14 (k : Int) (tmi s + sWay N (tat s) p)) 15 (k : Int) (c : Int)) 16 (k : Int) (tli s p)) 10 11 p) 10 10 (tmi s + sWay N (tat s) p)) p (lB T N p c (tsh s p) (tli s p) (tst N s p)) (tli s p + (c : Int)) (tfo s + (tsh s p - lB T N p c (tsh s p) (tli s p) (tst N s p))) (tst N s p + (c : Int)) (tB T N p w c (tsh s p) (tli s p) (tst N s p) (tfo s) (tmk s))) 17 (k : Int) (tfo s + (tsh s p - lB T N p c (tsh s p) (tli s p) (tst N s p)))) 10 8 ((k : Int) + 1)) 14 t = J 14 t := by rw [zU_n (by decide), zU_n (by decide), zG_n (by omega), zU_n (by decide), zU_n (by decide), zU_n (by decide), zU_n (by decide), zU_x h, zU_n (by decide)]
theorem goOn_15 {J : zA} {T : zX} {N : Int → Int → Int} {w p : Int} {s : tR} {k c : Nat} {t : Int} (h : t ≠ (k : Int)) : (zU (zU (zG (zU (zU (zU (zU (zU (zU J 13 (k : Int) p) 14 (k : Int) (tmi s + sWay N (tat s) p)) 15 (k : Int) (c : Int)) 16 (k : Int) (tli s p)) 10 11 p) 10 10 (tmi s + sWay N (tat s) p)) p (lB T N p c (tsh s p) (tli s p) (tst N s p)) (tli s p + (c : Int)) (tfo s + (tsh s p - lB T N p c (tsh s p) (tli s p) (tst N s p))) (tst N s p + (c : Int)) (tB T N p w c (tsh s p) (tli s p) (tst N s p) (tfo s) (tmk s))) 17 (k : Int) (tfo s + (tsh s p - lB T N p c (tsh s p) (tli s p) (tst N s p)))) 10 8 ((k : Int) + 1)) 15 t = J 15 t := by rw [zU_n (by decide), zU_n (by decide), zG_n (by omega), zU_n (by decide), zU_n (by decide), zU_n (by decide), zU_x h, zU_n (by decide), zU_n (by decide)]
theorem goOn_16 {J : zA} {T : zX} {N : Int → Int → Int} {w p : Int} {s : tR} {k c : Nat} {t : Int} (h : t ≠ (k : Int)) : (zU (zU (zG (zU (zU (zU (zU (zU (zU J 13 (k : Int) p) 14 (k : Int) (tmi s + sWay N (tat s) p)) 15 (k : Int) (c : Int)) 16 (k : Int) (tli s p)) 10 11 p) 10 10 (tmi s + sWay N (tat s) p)) p (lB T N p c (tsh s p) (tli s p) (tst N s p)) (tli s p + (c : Int)) (tfo s + (tsh s p - lB T N p c (tsh s p) (tli s p) (tst N s p))) (tst N s p + (c : Int)) (tB T N p w c (tsh s p) (tli s p) (tst N s p) (tfo s) (tmk s))) 17 (k : Int) (tfo s + (tsh s p - lB T N p c (tsh s p) (tli s p) (tst N s p)))) 10 8 ((k : Int) + 1)) 16 t = J 16 t := by rw [zU_n (by decide), zU_n (by decide), zG_n (by omega), zU_n (by decide), zU_n (by decide), zU_x h, zU_n (by decide), zU_n (by decide), zU_n (by decide)]
theorem goOn_17 {J : zA} {T : zX} {N : Int → Int → Int} {w p : Int} {s : tR} {k c : Nat} {t : Int} (h : t ≠ (k : Int)) : (zU (zU (zG (zU (zU (zU (zU (zU (zU J 13 (k : Int) p) 14 (k : Int) (tmi s + sWay N (tat s) p)) 15 (k : Int) (c : Int)) 16 (k : Int) (tli s p)) 10 11 p) 10 10 (tmi s + sWay N (tat s) p)) p (lB T N p c (tsh s p) (tli s p) (tst N s p)) (tli s p + (c : Int)) (tfo s + (tsh s p - lB T N p c (tsh s p) (tli s p) (tst N s p))) (tst N s p + (c : Int)) (tB T N p w c (tsh s p) (tli s p) (tst N s p) (tfo s) (tmk s))) 17 (k : Int) (tfo s + (tsh s p - lB T N p c (tsh s p) (tli s p) (tst N s p)))) 10 8 ((k : Int) + 1)) 17 t = J 17 t := by rw [zU_n (by decide), zU_x h, zG_n (by omega), zU_n (by decide), zU_n (by decide), zU_n (by decide), zU_n (by decide), zU_n (by decide), zU_n (by decide)]
theorem goOn_e {X : Nat × (Nat → Int32)} {d : Nat} {J J2 M : zA} {R : zR} {T : zX} {N : Int → Int → Int} {n w p : Int} {s : tR} {k c : Nat} {e5 : Option Value} (hR : zRok R) (hc : cTr J s k w) (hk30 : k < 30) (hpn : 0 ≤ p ∧ p < n) (hq : 1 ≤ (c : Int) ∧ (c : Int) ≤ 99) (h9 : tst N s p + c ≤ 999) (hi : tI n s k) (h2 : zK kT (zG (zU (zU (zU (zU (zU (zU J 13 (k : Int) p) 14 (k : Int) (tmi s + sWay N (tat s) p)) 15 (k : Int) (c : Int)) 16 (k : Int) (tli s p)) 10 11 p) 10 10 (tmi s + sWay N (tat s) p)) p (lB T N p c (tsh s p) (tli s p) (tst N s p)) (tli s p + (c : Int)) (tfo s + (tsh s p - lB T N p c (tsh s p) (tli s p) (tst N s p))) (tst N s p + (c : Int)) (tB T N p w c (tsh s p) (tli s p) (tst N s p) (tfo s) (tmk s))) J2) : zW X (d + 7) 80 227 [some (.ref 10), some (zi p), some (zi (c : Int)), some (zi (tmi s + sWay N (tat s) p)), some (zi (c : Int)), e5] [] J2 M R (fun r J2 M2 R2 => (r = some (zi 1) ∧ tC N n s p (c : Int) ∧ zK kP J J2 ∧ cTr J2 (tN T N w s p (c : Int)) (k + 1) w ∧ (∀ t : Nat, t < k → J2 13 t = J 13 t ∧ J2 14 t = J 14 t ∧ J2 15 t = J 15 t ∧ J2 16 t = J 16 t ∧ J2 17 t = J 17 t) ∧ J2 13 k = p ∧ J2 14 k = tst N s p ∧ J2 15 k = (c : Int) ∧ J2 16 k = tli s p ∧ J2 17 k = tfo (tN T N w s p (c : Int)) ∧ M2 = M ∧ R2 = R) ∨ (r = some (zi 0) ∧ ¬ tC N n s p (c : Int) ∧ J2 = J ∧ M2 = M ∧ R2 = R)) := by
  obtain ⟨c8, c9, c10, c11, c12, c13, s11, l12⟩ := hc
  have f1 := hi.2.2.2.2.1
  refine z_aload0 rfl ?_
  refine z_getR (r := 17) rfl gk_10 (hR _ rm_10_7) ?_
  refine z_aload0 rfl ?_
  refine z_getI (v := (k : Int)) rfl gk_10 ((h2 10 8 rfl).trans c8) ?_
  refine z_aload0 rfl ?_
  refine z_getI (v := tfo s + (tsh s p - lB T N p c (tsh s p) (tli s p) (tst N s p))) rfl gk_10 (h2 10 9 rfl) ?_
  refine z_iast (e := tfo s + (tsh s p - lB T N p c (tsh s p) (tli s p) (tst N s p))) rfl gk_17 (by decide) (by omega) rfl ?_
  refine z_aload0 rfl ?_
  refine z_dup rfl rfl ?_
  refine z_getI (v := (k : Int)) rfl gk_10 ((zU_n (by decide)).trans ((h2 10 8 rfl).trans c8)) ?_
  refine z_pushJ gp_80_245 ?_
  refine z_iadd (e := (k : Int) + 1) rfl rfl ?_
  refine z_putI (y := 8) rfl rfl gk_10 ?_
  refine z_pushJ gp_80_250 ?_
  refine z_bret1 rfl gr_80 ?_
  have hk := (zK_u (a := 10) (x := 8) (v := (k : Int) + 1) (zK_u (a := 17) (x := (k : Int)) (v := tfo s + (tsh s p - lB T N p c (tsh s p) (tli s p) (tst N s p))) h2))
  refine Or.inl ⟨rfl, ⟨hpn, hq, h9⟩, ?_, ?_, ?_, ?_, ?_, ?_, ?_, ?_, rfl, rfl⟩
  · intro x j hx
    rw [hk x j (kP_T x j hx)]
    exact goOn_x hx
  · refine ⟨?_, ?_, ?_, ?_, ?_, ?_, fun x x1 x2 => ?_, fun x x1 x2 => ?_⟩
    · exact (hk 10 8 rfl).trans zU_e
    · exact hk 10 9 rfl
    · exact hk 10 10 rfl
    · exact hk 10 11 rfl
    · exact (hk 10 12 rfl).trans c12
    · exact hk 10 13 rfl
    · rw [hk 11 x rfl, zU_n (by decide), zU_n (by decide), zG_11i]
      show _ = fset (tsh s) p _ x
      unfold fset
      split
      · rfl
      · exact s11 x x1 x2
    · rw [hk 12 x rfl, zU_n (by decide), zU_n (by decide), zG_12i]
      show _ = fset (tli s) p _ x
      unfold fset
      split
      · rfl
      · exact l12 x x1 x2
  · intro t ht
    refine ⟨?_, ?_, ?_, ?_, ?_⟩
    · rw [hk 13 t rfl]; exact goOn_13 (by omega)
    · rw [hk 14 t rfl]; exact goOn_14 (by omega)
    · rw [hk 15 t rfl]; exact goOn_15 (by omega)
    · rw [hk 16 t rfl]; exact goOn_16 (by omega)
    · rw [hk 17 t rfl]; exact goOn_17 (by omega)
  · rw [hk 13 k rfl, zU_n (by decide), zU_n (by decide), zG_n (by omega), zU_n (by decide), zU_n (by decide), zU_n (by decide), zU_n (by decide), zU_n (by decide), zU_e]
  · rw [hk 14 k rfl, zU_n (by decide), zU_n (by decide), zG_n (by omega), zU_n (by decide), zU_n (by decide), zU_n (by decide), zU_n (by decide), zU_e]; rfl
  · rw [hk 15 k rfl, zU_n (by decide), zU_n (by decide), zG_n (by omega), zU_n (by decide), zU_n (by decide), zU_n (by decide), zU_e]
  · rw [hk 16 k rfl, zU_n (by decide), zU_n (by decide), zG_n (by omega), zU_n (by decide), zU_n (by decide), zU_e]
  · rw [hk 17 k rfl, zU_n (by decide), zU_e]; rfl
theorem goOn_k {X : Nat × (Nat → Int32)} {d : Nat} {J M : zA} {R : zR} {N : Int → Int → Int} {n : Int} (hR : zRok R) (hA : cN J = N) (hz : J 8 2 = n) (hN : zNr n N) {T : zX} (hT : LawC X J R T) (hTr : Tok T) {s : tR} {k : Nat} {w p q : Int} (hc : cTr J s k w) (hk30 : k < 30) (hw2 : 0 ≤ w ∧ w ≤ 1000000) (hi : tI n s k) (hp : -2147483648 ≤ p ∧ p < 2147483648) (hq : -2147483648 ≤ q ∧ q < 2147483648) : zW X (d + 7) 80 0 (gEn 80 [(.ref 10), (zi p), (zi q)]) [] J M R (fun r J2 M2 R2 => (r = some (zi 1) ∧ tC N n s p q ∧ zK kP J J2 ∧ cTr J2 (tN T N w s p q) (k + 1) w ∧ (∀ t : Nat, t < k → J2 13 t = J 13 t ∧ J2 14 t = J 14 t ∧ J2 15 t = J 15 t ∧ J2 16 t = J 16 t ∧ J2 17 t = J 17 t) ∧ J2 13 k = p ∧ J2 14 k = tst N s p ∧ J2 15 k = q ∧ J2 16 k = tli s p ∧ J2 17 k = tfo (tN T N w s p q) ∧ M2 = M ∧ R2 = R) ∨ (r = some (zi 0) ∧ ¬ tC N n s p q ∧ J2 = J ∧ M2 = M ∧ R2 = R)) := by
  have hJ : zK kT J J := zK_r
  have q1 := zNn hN
  have hc0 := hc
  obtain ⟨c8, c9, c10, c11, c12, c13, s11, l12⟩ := hc0
  have hi0 := hi
  obtain ⟨i1, i2, i3, i4, i5, i6⟩ := hi0
  show zW _ _ _ _ [some (.ref 10), some (zi p), some (zi q), none, none, none] _ _ _ _ _
  refine z_aload0 rfl ?_
  refine z_getR (r := 8) rfl gk_10 (hR _ rm_10_0) ?_
  refine z_iload1 rfl ?_
  refine z_cV1 rfl gk_8 go_87 (Nat.le_of_ble_eq_true rfl) gc_87_RI ?_
  refine z_iload1 gi_87_0 ?_
  refine z_if_lt gi_87_1 (by omega) (fun h1 => ?_) (fun h1 => ?_)
  · refine z_pushJ gp_87_16 ?_
    refine z_bret0 gi_87_17 gr_87 ?_
    show zW _ _ _ _ _ _ _ _ _ _
    refine z_if_eqT gi_80_8 zr_0 (by decide) ?_
    refine z_pushJ gp_80_27 ?_
    refine z_bret0 gi_80_28 gr_80 ?_
    refine Or.inr ⟨rfl, ?_, rfl, rfl, rfl⟩
    unfold tC tst
    omega
  · refine z_iload1 gi_87_4 ?_
    refine z_aload0 gi_87_5 ?_
    refine z_getI (v := n) gi_87_6 gk_8 ((hJ 8 2 rfl).trans hz) ?_
    refine z_icmp_ge gi_87_9 (by omega) (by omega) (fun h2 => ?_) (fun h2 => ?_)
    · refine z_pushJ gp_87_16 ?_
      refine z_bret0 gi_87_17 gr_87 ?_
      show zW _ _ _ _ _ _ _ _ _ _
      refine z_if_eqT gi_80_8 zr_0 (by decide) ?_
      refine z_pushJ gp_80_27 ?_
      refine z_bret0 gi_80_28 gr_80 ?_
      refine Or.inr ⟨rfl, ?_, rfl, rfl, rfl⟩
      unfold tC tst
      omega
    · refine z_pushJ gp_87_12 ?_
      refine z_goto gi_87_13 ?_
      refine z_bret1 gi_87_17 gr_87 ?_
      show zW _ _ _ _ _ _ _ _ _ _
      refine z_if_eqF gi_80_8 zr_1 (by decide) ?_
      refine z_iload2 rfl ?_
      refine z_cS1 rfl (Nat.le_of_ble_eq_true rfl) gc_145_I ?_
      refine z_iload0 gi_145_0 ?_
      refine z_pushJ gp_145_1 ?_
      refine z_icmp_lt gi_145_2 (by omega) zr_1 (fun h3 => ?_) (fun h3 => ?_)
      · refine z_pushJ gp_145_15 ?_
        refine z_bret0 gi_145_16 gr_145 ?_
        show zW _ _ _ _ _ _ _ _ _ _
        refine z_if_eqT gi_80_15 zr_0 (by decide) ?_
        refine z_pushJ gp_80_27 ?_
        refine z_bret0 gi_80_28 gr_80 ?_
        refine Or.inr ⟨rfl, ?_, rfl, rfl, rfl⟩
        unfold tC tst
        omega
      · refine z_iload0 gi_145_5 ?_
        refine z_pushJ gp_145_6 ?_
        refine z_icmp_gt gi_145_8 (by omega) zr_99 (fun h4 => ?_) (fun h4 => ?_)
        · refine z_pushJ gp_145_15 ?_
          refine z_bret0 gi_145_16 gr_145 ?_
          show zW _ _ _ _ _ _ _ _ _ _
          refine z_if_eqT gi_80_15 zr_0 (by decide) ?_
          refine z_pushJ gp_80_27 ?_
          refine z_bret0 gi_80_28 gr_80 ?_
          refine Or.inr ⟨rfl, ?_, rfl, rfl, rfl⟩
          unfold tC tst
          omega
        · refine z_pushJ gp_145_11 ?_
          refine z_goto gi_145_12 ?_
          refine z_bret1 gi_145_16 gr_145 ?_
          show zW _ _ _ _ _ _ _ _ _ _
          refine z_if_eqF gi_80_15 zr_1 (by decide) ?_
          refine z_aload0 rfl ?_
          refine z_getI (v := (k : Int)) rfl gk_10 (c8) ?_
          refine z_pushJ gp_80_22 ?_
          refine z_icmp_ltT rfl (by omega) zr_30 (by omega) ?_
          refine z_aload0 rfl ?_
          refine z_getI (v := tmi s) rfl gk_10 (c10) ?_
          refine z_aload0 rfl ?_
          refine z_getR (r := 8) rfl gk_10 (hR _ rm_10_0) ?_
          refine z_aload0 rfl ?_
          refine z_getI (v := tat s) rfl gk_10 (c11) ?_
          refine z_iload1 rfl ?_
          refine z_callVP (As := [_, _]) (v := sWay N (tat s) p) rfl rfl gk_8 (Nat.le_of_ble_eq_true rfl) (Nat.le_of_ble_eq_true rfl) (way_k hR hJ hA hz hN (by omega) (by omega)) ?_
          have q5 := sWay_r hN (f := tat s) (p := p)
          refine z_iadd (e := (tmi s) + (sWay N (tat s) p)) rfl rfl ?_
          refine z_istore (ls1 := [some (.ref 10), some (zi p), some (zi q), some (zi ((tmi s) + (sWay N (tat s) p))), none, none]) rfl rfl ?_
          refine z_iload3 rfl ?_
          refine z_iload2 rfl ?_
          refine z_iadd (e := (tmi s) + (sWay N (tat s) p) + q) rfl rfl ?_
          refine z_pushJ gp_80_50 ?_
          refine z_icmp_le rfl (by omega) (by decide) (fun h6 => ?_) (fun h6 => ?_)
          · refine z_aload0 rfl ?_
            refine z_getR (r := 13) rfl gk_10 (hR _ rm_10_3) ?_
            refine z_aload0 rfl ?_
            refine z_getI (v := (k : Int)) rfl gk_10 (c8) ?_
            refine z_iload1 rfl ?_
            refine z_iast (e := p) rfl gk_13 (by decide) (by omega) rfl ?_
            refine z_aload0 rfl ?_
            refine z_getR (r := 14) rfl gk_10 (hR _ rm_10_4) ?_
            refine z_aload0 rfl ?_
            refine z_getI (v := (k : Int)) rfl gk_10 ((zU_n (by decide)).trans (c8)) ?_
            refine z_iload3 rfl ?_
            refine z_iast (e := (tmi s) + (sWay N (tat s) p)) rfl gk_14 (by decide) (by omega) rfl ?_
            refine z_aload0 rfl ?_
            refine z_getR (r := 15) rfl gk_10 (hR _ rm_10_5) ?_
            refine z_aload0 rfl ?_
            refine z_getI (v := (k : Int)) rfl gk_10 ((zU_n (by decide)).trans ((zU_n (by decide)).trans (c8))) ?_
            refine z_iload2 rfl ?_
            refine z_iast (e := q) rfl gk_15 (by decide) (by omega) rfl ?_
            refine z_aload0 rfl ?_
            refine z_getR (r := 16) rfl gk_10 (hR _ rm_10_6) ?_
            refine z_aload0 rfl ?_
            refine z_getI (v := (k : Int)) rfl gk_10 ((zU_n (by decide)).trans ((zU_n (by decide)).trans ((zU_n (by decide)).trans (c8)))) ?_
            refine z_aload0 rfl ?_
            refine z_getR (r := 12) rfl gk_10 (hR _ rm_10_2) ?_
            refine z_iload1 rfl ?_
            refine z_iald (v := tli s p) rfl gk_12 (by decide) (by omega) ((zU_n (by decide)).trans ((zU_n (by decide)).trans ((zU_n (by decide)).trans (l12 p (by omega) (by omega))))) ?_
            refine z_iast (e := tli s p) rfl gk_16 (by decide) (by omega) rfl ?_
            refine z_aload0 rfl ?_
            refine z_iload1 rfl ?_
            refine z_putI (y := 11) rfl rfl gk_10 ?_
            refine z_aload0 rfl ?_
            refine z_iload3 rfl ?_
            refine z_putI (y := 10) rfl rfl gk_10 ?_
            refine z_pushJ gp_80_113 ?_
            refine z_istore (ls1 := [some (.ref 10), some (zi p), some (zi q), some (zi ((tmi s) + (sWay N (tat s) p))), some (zi 0), none]) rfl rfl ?_
            show zW _ _ _ _ [some (.ref 10), some (zi p), some (zi q), some (zi ((tmi s) + (sWay N (tat s) p))), some (zi 0), none] [] _ _ _ _
            have hB : zK kT (zU (zU (zU (zU (zU (zU J 13 (k : Int) p) 14 (k : Int) ((tmi s) + (sWay N (tat s) p))) 15 (k : Int) q) 16 (k : Int) (tli s p)) 10 11 p) 10 10 ((tmi s) + (sWay N (tat s) p))) (zU (zU (zU (zU (zU (zU J 13 (k : Int) p) 14 (k : Int) ((tmi s) + (sWay N (tat s) p))) 15 (k : Int) q) 16 (k : Int) (tli s p)) 10 11 p) 10 10 ((tmi s) + (sWay N (tat s) p))) := zK_r
            generalize hBB : (zU (zU (zU (zU (zU (zU J 13 (k : Int) p) 14 (k : Int) ((tmi s) + (sWay N (tat s) p))) 15 (k : Int) q) 16 (k : Int) (tli s p)) 10 11 p) 10 10 ((tmi s) + (sWay N (tat s) p))) = B at hB ⊢
            obtain ⟨c, rfl⟩ : ∃ t : Nat, q = t := ⟨q.toNat, by omega⟩
            refine goOn_z (B := B) (c := c) (p := p) (w := w) hR (by rw [← hBB]; exact hA) (by rw [← hBB]; exact hz) hN (by rw [← hBB]; exact LawC_A hT rfl (fun _ => rfl) (fun _ => rfl) (fun _ => rfl) (fun _ => rfl)) hTr (by omega) (by omega) (by rw [← hBB]; exact c12) hw2 c 0 (tsh s p) (tli s p) (tst N s p) (tfo s) (tmk s) _ B (by rw [zG_is (by rw [← hBB]; exact s11 p (by omega) (by omega)) (by rw [← hBB]; exact l12 p (by omega) (by omega)) (by rw [← hBB]; exact c9) (by rw [← hBB]; rfl) (by rw [← hBB]; exact c13)]; exact zK_r) (by omega) (by omega) (i1 p) (by have := i2 p; omega) (by have := q1; unfold tst; omega) (by have := i1 p; omega) (by omega) (fun J2 e5 h2 => ?_)
            subst hBB
            exact goOn_e hR hc hk30 (by omega) (by omega) (by unfold tst; omega) hi h2
          · refine z_pushJ gp_80_56 ?_
            refine z_bret0 rfl gr_80 ?_
            refine Or.inr ⟨rfl, ?_, rfl, rfl, rfl⟩
            unfold tC tst
            omega
