theorem wr1 {X : Nat × (Nat → Int32)} {d : Nat} {M : zA} {R : zR} {P : zP} (hR : zRoR R) {B : zA} {e : en6} (hB : B 67 0 = e.1 ∧ B 67 1 = e.2.1 ∧ B 67 2 = e.2.2.1 ∧ B 67 3 = e.2.2.2.1 ∧ B 67 4 = e.2.2.2.2.1 ∧ B 67 5 = e.2.2.2.2.2) (he : e6r e) {x : Int × Int} {st : List Int} {m : Nat} {i fi en : Int} {s6 : Option Value} {J : zA} (hJ : zK (kL [68] []) B J) (hs : rok J st) (hl : (st.length : Int) ≤ 120) (ok : okc x) (hd : dp1 x st.length = some m) (hx : B 62 i = (enc x).1 ∧ B 63 i = (enc x).2) (hi : 0 ≤ i ∧ i < en ∧ en ≤ 130) (KK : ∀ (J2 : zA) (s6 : Option Value), zK (kL [68] []) B J2 → rok J2 (x1 e x st) → (x1 e x st).length = m → zW X (d + 2) 180 12 [some (.ref 50), some (zi 0), some (zi fi), some (zi en), some (zi ((x1 e x st).length : Int)), some (zi (i + 1)), s6] [] J2 M R P) : zW X (d + 2) 180 12 [some (.ref 50), some (zi 0), some (zi fi), some (zi en), some (zi (st.length : Int)), some (zi i), s6] [] J M R P := by
  obtain ⟨s, v⟩ := x
  obtain ⟨h2, h3⟩ := hs
  rcases ok with ⟨k1, k2⟩ | ⟨k1, k2⟩ | ⟨k1, k2⟩ | ⟨k1, k2⟩
  · have k1 : s = 48 := k1
    subst k1
    have hm := dp_1 (Or.inl rfl) hd
    exact wr_48 (v := v) hR hB he hJ h2 h3 hl k2 hx hi (fun J2 s6 a b => KK J2 s6 a b (by rw [hm]; rfl))
  · have k2 : v = 0 := k2
    subst k2
    have hm := dp_1 (Or.inr k1) hd
    have k1 : s = 104 ∨ s = 100 ∨ s = 107 ∨ s = 109 ∨ s = 99 ∨ s = 112 := k1
    rw [enc_n (show nmd s from k1)] at hx
    rw [x1_n (e := e) (st := st) (show nmd s from k1)] at KK
    rcases k1 with rfl | rfl | rfl | rfl | rfl | rfl
    · exact wr_104 hR hB he hJ h2 h3 hl hx hi (fun J2 s6 a b => KK J2 s6 a b (by rw [hm]; rfl))
    · exact wr_100 hR hB he hJ h2 h3 hl hx hi (fun J2 s6 a b => KK J2 s6 a b (by rw [hm]; rfl))
    · exact wr_107 hR hB he hJ h2 h3 hl hx hi (fun J2 s6 a b => KK J2 s6 a b (by rw [hm]; rfl))
    · exact wr_109 hR hB he hJ h2 h3 hl hx hi (fun J2 s6 a b => KK J2 s6 a b (by rw [hm]; rfl))
    · exact wr_99 hR hB he hJ h2 h3 hl hx hi (fun J2 s6 a b => KK J2 s6 a b (by rw [hm]; rfl))
    · exact wr_112 hR hB he hJ h2 h3 hl hx hi (fun J2 s6 a b => KK J2 s6 a b (by rw [hm]; rfl))
  · have k2 : v = 0 := k2
    subst k2
    have k1 : s = 33 ∨ s = 95 := k1
    have hm := dp_2 k1 hd
    cases st with
    | nil => exact absurd hm.1 (by decide)
    | cons a t =>
      have hL : ((a :: t).length : Int) = (t.length : Int) + 1 := by rw [List.length_cons]; omega
      rw [hL] at hl
      rw [hL]
      have ra := h3 a (List.mem_cons_self ..)
      have hrt : stR t := fun w hw => h3 w (List.mem_cons_of_mem _ hw)
      rcases k1 with rfl | rfl
      · exact wr_33 (a := a) hR hB he hJ h2.2 hrt (by omega) h2.1 ra hx hi (fun J2 s6 y b => KK J2 s6 y b (by rw [hm.2]; rfl))
      · exact wr_95 (a := a) hR hB he hJ h2.2 hrt (by omega) h2.1 ra hx hi (fun J2 s6 y b => KK J2 s6 y b (by rw [hm.2]; rfl))
  · have k2 : v = 0 := k2
    subst k2
    have k1 : 0 ≤ rk s := k1
    have hm := dp_3 k1 hd
    rw [enc_b k1] at hx
    cases st with
    | nil => exact absurd hm.1 (by decide)
    | cons b u =>
      cases u with
      | nil => exact absurd (show 2 ≤ 1 from hm.1) (by decide)
      | cons a t =>
        have hL : ((b :: a :: t).length : Int) = (t.length : Int) + 1 + 1 := by rw [List.length_cons, List.length_cons]; omega
        rw [hL] at hl
        rw [hL]
        have rb := h3 b (List.mem_cons_self ..)
        have ra := h3 a (List.mem_cons_of_mem _ (List.mem_cons_self ..))
        have hrt : stR t := fun w hw => h3 w (List.mem_cons_of_mem _ (List.mem_cons_of_mem _ hw))
        have hb : J 68 ((t.length : Int) + 1) = b := by
          have q := h2.1
          rw [List.length_cons] at q
          exact q
        rw [x1_b (e := e) k1] at KK
        refine wr_b (a := a) (b := b) hR hB he hJ h2.2.2 hrt (by omega) h2.2.1 hb ra rb k1 (rk37 k1) hx hi (fun J2 s6 y z => KK J2 s6 y z ?_)
        have q := hm.2
        rw [List.length_cons, List.length_cons] at q
        rw [List.length_cons]
        omega
theorem wrs {X : Nat × (Nat → Int32)} {d : Nat} {M : zA} {R : zR} {P : zP} (hR : zRoR R) {B : zA} {e : en6} (hB : B 67 0 = e.1 ∧ B 67 1 = e.2.1 ∧ B 67 2 = e.2.2.1 ∧ B 67 3 = e.2.2.2.1 ∧ B 67 4 = e.2.2.2.2.1 ∧ B 67 5 = e.2.2.2.2.2) (he : e6r e) {fi en : Int} (h130 : en ≤ 130) : ∀ (l : List (Int × Int)) (st : List Int) (m : Nat) (i : Int) (s6 : Option Value) (J : zA), zK (kL [68] []) B J → rok J st → (st.length : Int) + (l.length : Int) ≤ 120 → lay B 62 63 i (l.map enc) → (∀ y ∈ l, okc y) → dpl l st.length = some m → (0 ≤ i ∧ i + (l.length : Int) ≤ en) → (∀ (J2 : zA) (s6 : Option Value), zK (kL [68] []) B J2 → rok J2 (ex e l st) → (ex e l st).length = m → zW X (d + 2) 180 12 [some (.ref 50), some (zi 0), some (zi fi), some (zi en), some (zi ((ex e l st).length : Int)), some (zi (i + (l.length : Int))), s6] [] J2 M R P) → zW X (d + 2) 180 12 [some (.ref 50), some (zi 0), some (zi fi), some (zi en), some (zi (st.length : Int)), some (zi i), s6] [] J M R P := by
  intro l
  induction l with
  | nil =>
    intro st m i s6 J hJ hs hl hy ok hd hi KK
    have h := KK J s6 hJ hs (Option.some.inj hd)
    rw [show i + (([] : List (Int × Int)).length : Int) = i by show i + ((0 : Nat) : Int) = i; omega] at h
    exact h
  | cons x l ih =>
    intro st m i s6 J hJ hs hl hy ok hd hi KK
    rw [List.length_cons] at hl hi
    have hd2 : (match dp1 x st.length with | none => none | some m => dpl l m) = some m := hd
    cases h1 : dp1 x st.length with
    | none =>
      rw [h1] at hd2
      cases hd2
    | some k =>
      rw [h1] at hd2
      have hk : (k : Int) ≤ (st.length : Int) + 1 := by
        rcases ok x (List.mem_cons_self ..) with g | g | g | g
        · have := dp_1 (Or.inl g.1) h1
          omega
        · have := dp_1 (Or.inr g.1) h1
          omega
        · obtain ⟨s, v⟩ := x
          have e2 : v = 0 := g.2
          subst e2
          have := dp_2 g.1 h1
          omega
        · obtain ⟨s, v⟩ := x
          have e2 : v = 0 := g.2
          subst e2
          have := dp_3 g.1 h1
          omega
      refine wr1 hR hB he (m := k) hJ hs (by omega) (ok x (List.mem_cons_self ..)) h1 hy.1 (by omega) (fun J2 s6 hJ2 s2 l2 => ?_)
      refine ih (x1 e x st) m (i + 1) s6 J2 hJ2 s2 (by rw [l2]; omega) hy.2 (fun y hm => ok y (List.mem_cons_of_mem _ hm)) (by rw [l2]; exact hd2) (by omega) (fun J3 s6 g1 g2 g4 => ?_)
      have h := KK J3 s6 g1 g2 g4
      rw [List.length_cons, show i + ((l.length + 1 : Nat) : Int) = i + 1 + (l.length : Int) by omega] at h
      exact h
theorem wre {X : Nat × (Nat → Int32)} {d : Nat} {M : zA} {R : zR} {P : zP} (hR : zRoR R) {v fi en : Int} {s6 : Option Value} {J : zA} (hs : rok J [v]) (hi : 0 ≤ en ∧ en ≤ 130) (KK : P (some (zi v)) J M R) : zW X (d + 2) 180 12 [some (.ref 50), some (zi 0), some (zi fi), some (zi en), some (zi 1), some (zi en), s6] [] J M R P := by
  show zW _ _ _ _ [some (.ref 50), some (zi 0), some (zi fi), some (zi en), some (zi 1), some (zi en), s6] _ _ _ _ _
  refine z_iload5 gi_180_12 ?_
  refine z_pushJ gp_180_14 ?_
  refine z_iload1 gi_180_17 ?_
  refine z_imul (e := 0) gi_180_18 rfl ?_
  refine z_iload3 gi_180_19 ?_
  refine z_iadd (e := 0 + en) gi_180_20 rfl ?_
  refine z_icmp_geT gi_180_21 (by omega) (by omega) (by omega) ?_
  refine z_aload0 rfl ?_
  refine z_getR (r := 68) rfl gk_50 (hR _ rm_50_26 (by decide)) ?_
  refine z_pushJ gp_180_192 ?_
  refine z_iald (v := v) rfl gk_68 (by decide) (by decide) (hs.1.1) ?_
  refine z_iret rfl gr_180 ?_
  exact KK
theorem worked_k {X : Nat × (Nat → Int32)} {d : Nat} {M : zA} {R : zR} (hR : zRoR R) {B : zA} {e : en6} (hB : B 67 0 = e.1 ∧ B 67 1 = e.2.1 ∧ B 67 2 = e.2.2.1 ∧ B 67 3 = e.2.2.2.1 ∧ B 67 4 = e.2.2.2.2.1 ∧ B 67 5 = e.2.2.2.2.2) (he : e6r e) {l : List (Int × Int)} {fi en : Int} {J : zA} (hJ : zK (kL [68] []) B J) (hy : lay B 62 63 fi (l.map enc)) (hg : gd l) (hl : (l.length : Int) ≤ 120) (hen : fi + (l.length : Int) = en) (h0 : 0 ≤ fi) (h130 : en ≤ 130) : zW X (d + 2) 180 0 (gEn 180 [.ref 50, zi 0, zi fi, zi en]) [] J M R (fun r J2 M2 R2 => r = some (zi ((ex e l []).headD 0)) ∧ zK (kL [68] []) B J2 ∧ M2 = M ∧ R2 = R) := by
  show zW _ _ _ _ [some (.ref 50), some (zi 0), some (zi fi), some (zi en), none, none, none] _ _ _ _ _
  refine z_pushJ gp_180_0 ?_
  refine z_istore (ls1 := [some (.ref 50), some (zi 0), some (zi fi), some (zi en), some (zi 0), none, none]) rfl rfl ?_
  refine z_pushJ gp_180_3 ?_
  refine z_iload1 rfl ?_
  refine z_imul (e := 0) rfl rfl ?_
  refine z_iload2 rfl ?_
  refine z_iadd (e := 0 + fi) rfl rfl ?_
  refine z_istore (ls1 := [some (.ref 50), some (zi 0), some (zi fi), some (zi en), some (zi 0), some (zi (0 + fi)), none]) rfl rfl ?_
  show zW _ _ _ _ [some (.ref 50), some (zi 0), some (zi fi), some (zi en), some (zi 0), some (zi (0 + fi)), none] [] _ _ _ _
  show zW _ _ 180 12 [some (.ref 50), some (zi 0), some (zi fi), some (zi en), some (zi 0), some (zi (0 + fi)), none] _ _ _ _ _
  rw [show 0 + fi = fi by omega]
  subst hen
  refine wrs (d := d) hR hB he h130 l [] 1 fi none J hJ ⟨trivial, fun w hw => by cases hw⟩ (by show ((0 : Nat) : Int) + (l.length : Int) ≤ 120; omega) hy hg.1 (hg.2.1 0) (by omega) (fun J2 s6 k2 s2 l2 => ?_)
  have e1 := len1 l2
  rw [e1] at s2
  rw [l2]
  exact wre hR s2 (by omega) ⟨rfl, k2, rfl, rfl⟩
