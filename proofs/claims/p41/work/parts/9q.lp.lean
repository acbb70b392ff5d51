/-- what a text gives -/
noncomputable def evl (e : en6) : List lnT → Int
  | [] => 0
  | x :: t => if x.1 = [] ∨ ¬ (ex e x.1 []).headD 0 = 0 then (ex e x.2 []).headD 0 else evl e t
theorem evl_1 {e : en6} {x : lnT} {t : List lnT} (h : x.1 = [] ∨ ¬ (ex e x.1 []).headD 0 = 0) : evl e (x :: t) = (ex e x.2 []).headD 0 := by
  show (if _ then _ else _) = _
  rw [if_pos h]
theorem evl_0 {e : en6} {x : lnT} {t : List lnT} (h1 : x.1 ≠ []) (h2 : (ex e x.1 []).headD 0 = 0) : evl e (x :: t) = evl e t := by
  show (if _ then _ else _) = _
  rw [if_neg (fun g => g.elim h1 (fun k => k h2))]
theorem okc_s {x : Int × Int} (h : okc x) : ¬ x.1 = 59 ∧ ¬ x.1 = 63 ∧ (-1 ≤ x.1 ∧ x.1 ≤ 255) := by
  rcases h with h | h | h | h
  · have := h.1
    omega
  · have := h.1
    omega
  · have := h.1
    omega
  · have q := h.1
    have r := rk_b q
    refine ⟨fun e => ?_, fun e => ?_, by omega⟩
    · rw [e] at q
      exact absurd q (by decide)
    · rw [e] at q
      exact absurd q (by decide)
theorem len1 {l : List Int} (h : l.length = 1) : l = [l.headD 0] := by
  cases l with
  | nil => cases h
  | cons a t =>
    cases t with
    | nil => rfl
    | cons b u => cases h
theorem lay_hd {J : zA} {p q : Nat} {i : Int} {x : Int × Int} {l : List (Int × Int)} (h : lay J p q i (x :: l)) : J p i = x.1 ∧ J q i = x.2 := h.1
theorem lay_tl {J : zA} {p q : Nat} : ∀ (l m : List (Int × Int)) (i : Int), lay J p q i (l ++ m) → lay J p q i l ∧ lay J p q (i + (l.length : Int)) m := by
  intro l
  induction l with
  | nil =>
    intro m i h
    refine ⟨trivial, ?_⟩
    have e : i + (([] : List (Int × Int)).length : Int) = i := by show i + ((0 : Nat) : Int) = i; omega
    rw [e]
    exact h
  | cons x l ih =>
    intro m i h
    have g := ih m (i + 1) h.2
    refine ⟨⟨h.1, g.1⟩, ?_⟩
    have e : i + ((x :: l).length : Int) = i + 1 + (l.length : Int) := by rw [List.length_cons]; omega
    rw [e]
    exact g.2
theorem lay_eq {J J2 : zA} {p q : Nat} (hp : ∀ j, J2 p j = J p j) (hq : ∀ j, J2 q j = J q j) : ∀ (l : List (Int × Int)) (i : Int), lay J p q i l → lay J2 p q i l := by
  intro l
  induction l with
  | nil => exact fun _ _ => trivial
  | cons x l ih => exact fun i h => ⟨⟨(hp i).trans h.1.1, (hq i).trans h.1.2⟩, ih (i + 1) h.2⟩
theorem wk1a {X : Nat × (Nat → Int32)} {d : Nat} {M : zA} {R : zR} {P : zP} {p1 p2 p3 p4 p5 p6 : Int} (h3 : R 1 3 = some 5) (h4 : R 1 4 = some 6) (hR : zRok R) {B : zA} {e : en6} (hB : B 1 11 = e.1 ∧ B 1 12 = e.2.1 ∧ B 1 13 = e.2.2.1 ∧ B 1 14 = e.2.2.2.1 ∧ B 1 15 = e.2.2.2.2.1 ∧ B 1 16 = e.2.2.2.2.2) (he : e6r e) {N : Int} (hN : B 1 5 = N) (hN0 : 0 ≤ N ∧ N ≤ 121) {x : Int × Int} {st : List Int} {m : Nat} {i : Int} {s9 : Option Value} {J : zA} (hJ : zK (kL [7] [(1, 10)]) B J) (hs : sok J st) (hl : (st.length : Int) ≤ 120) (hx : B 5 i = x.1 ∧ B 6 i = x.2) (ok : okc x) (hd : dp1 x st.length = some m) (hi : 0 ≤ i ∧ i < N) (KK : ∀ (J2 : zA) (s9 : Option Value), zK (kL [7] [(1, 10)]) B J2 → sok J2 (x1 e x st) → (x1 e x st).length = m → zW X (d + 4) 38 59 [some (.ref 1), some (zi p1), some (zi p2), some (zi p3), some (zi p4), some (zi p5), some (zi p6), some (zi 0), some (zi (i + 1)), s9] [] J2 M R P) : zW X (d + 4) 38 59 [some (.ref 1), some (zi p1), some (zi p2), some (zi p3), some (zi p4), some (zi p5), some (zi p6), some (zi 0), some (zi i), s9] [] J M R P := by
  have q := okc_s ok
  show zW _ _ _ _ [some (.ref 1), some (zi p1), some (zi p2), some (zi p3), some (zi p4), some (zi p5), some (zi p6), some (zi 0), some (zi i), s9] _ _ _ _ _
  refine z_iload8 gi_38_59 ?_
  refine z_aload0 gi_38_61 ?_
  refine z_getI (v := N) gi_38_62 gk_1 ((hJ 1 5 rfl).trans hN) ?_
  refine z_icmp_geF gi_38_65 (by omega) (by omega) (by omega) ?_
  refine z_aload0 gi_38_68 ?_
  refine z_getR (r := 5) gi_38_69 gk_1 (h3) ?_
  refine z_iload8 gi_38_72 ?_
  refine z_iald (v := x.1) gi_38_74 gk_5 (by decide) (by omega) ((hJ 5 _ rfl).trans hx.1) ?_
  refine z_istore (ls1 := [some (.ref 1), some (zi p1), some (zi p2), some (zi p3), some (zi p4), some (zi p5), some (zi p6), some (zi 0), some (zi i), some (zi x.1)]) gi_38_75 rfl ?_
  refine z_iload7 gi_38_77 ?_
  refine z_if_eqT gi_38_79 zr_0 (by decide) ?_
  refine z_iload9 gi_38_99 ?_
  refine z_pushJ gp_38_101 ?_
  refine z_icmp_neT gi_38_103 (by omega) zr_59 (by omega) ?_
  refine z_iload9 gi_38_111 ?_
  refine z_pushJ gp_38_113 ?_
  refine z_icmp_neT gi_38_115 (by omega) zr_63 (by omega) ?_
  refine z_aload0 gi_38_135 ?_
  refine z_iload9 gi_38_136 ?_
  refine z_aload0 gi_38_138 ?_
  refine z_getR (r := 6) gi_38_139 gk_1 (h4) ?_
  refine z_iload8 gi_38_142 ?_
  refine z_iald (v := x.2) gi_38_144 gk_6 (by decide) (by omega) ((hJ 6 _ rfl).trans hx.2) ?_
  refine z_callV (As := [_, _]) _ gi_38_145 rfl rfl (Nat.le_of_ble_eq_true rfl) (Nat.le_of_ble_eq_true rfl) (run1 (e := e) hR ⟨(hJ 1 11 rfl).trans hB.1, (hJ 1 12 rfl).trans hB.2.1, (hJ 1 13 rfl).trans hB.2.2.1, (hJ 1 14 rfl).trans hB.2.2.2.1, (hJ 1 15 rfl).trans hB.2.2.2.2.1, (hJ 1 16 rfl).trans hB.2.2.2.2.2⟩ he hs (by omega) ok hd) (fun r J2 M2 R2 hr => ?_)
  obtain ⟨⟨rfl, k2, s2, rfl, rfl⟩, l2⟩ := hr
  show zW _ _ _ _ _ _ _ _ _ _
  refine z_iinc (c := 1) (e := i + 1) (ls1 := [some (.ref 1), some (zi p1), some (zi p2), some (zi p3), some (zi p4), some (zi p5), some (zi p6), some (zi 0), some (zi (i + 1)), some (zi x.1)]) gi_38_148 rfl rfl rfl rfl ?_
  refine z_goto gi_38_151 ?_
  show zW _ _ _ _ [some (.ref 1), some (zi p1), some (zi p2), some (zi p3), some (zi p4), some (zi p5), some (zi p6), some (zi 0), some (zi (i + 1)), some (zi x.1)] [] _ _ _ _
  exact KK J2 (some (zi x.1)) (zK_t hJ k2) s2 l2
theorem wksa {X : Nat × (Nat → Int32)} {d : Nat} {M : zA} {R : zR} {P : zP} {p1 p2 p3 p4 p5 p6 : Int} (h3 : R 1 3 = some 5) (h4 : R 1 4 = some 6) (hR : zRok R) {B : zA} {e : en6} (hB : B 1 11 = e.1 ∧ B 1 12 = e.2.1 ∧ B 1 13 = e.2.2.1 ∧ B 1 14 = e.2.2.2.1 ∧ B 1 15 = e.2.2.2.2.1 ∧ B 1 16 = e.2.2.2.2.2) (he : e6r e) {N : Int} (hN : B 1 5 = N) (hN0 : 0 ≤ N ∧ N ≤ 121) : ∀ (l : List (Int × Int)) (st : List Int) (m : Nat) (i : Int) (s9 : Option Value) (J : zA), zK (kL [7] [(1, 10)]) B J → sok J st → (st.length : Int) + (l.length : Int) ≤ 120 → lay B 5 6 i l → (∀ y ∈ l, okc y) → dpl l st.length = some m → (0 ≤ i ∧ i + (l.length : Int) ≤ N) → (∀ (J2 : zA) (s9 : Option Value), zK (kL [7] [(1, 10)]) B J2 → sok J2 (ex e l st) → (ex e l st).length = m → zW X (d + 4) 38 59 [some (.ref 1), some (zi p1), some (zi p2), some (zi p3), some (zi p4), some (zi p5), some (zi p6), some (zi 0), some (zi (i + (l.length : Int))), s9] [] J2 M R P) → zW X (d + 4) 38 59 [some (.ref 1), some (zi p1), some (zi p2), some (zi p3), some (zi p4), some (zi p5), some (zi p6), some (zi 0), some (zi i), s9] [] J M R P := by
  intro l
  induction l with
  | nil =>
    intro st m i s9 J hJ hs hl hy ok hd hi KK
    have h := KK J s9 hJ hs (Option.some.inj hd)
    rw [show i + (([] : List (Int × Int)).length : Int) = i by show i + ((0 : Nat) : Int) = i; omega] at h
    exact h
  | cons x l ih =>
    intro st m i s9 J hJ hs hl hy ok hd hi KK
    rw [List.length_cons] at hl hi
    have hd2 : (match dp1 x st.length with | none => none | some m => dpl l m) = some m := hd
    cases h1 : dp1 x st.length with
    | none =>
      rw [h1] at hd2
      cases hd2
    | some k =>
      rw [h1] at hd2
      have hk : (k : Int) ≤ (st.length : Int) + 1 := by
        rcases ok x (List.mem_cons_self ..) with g | g | g | g
        · have := dp_1 (Or.inl g.1) h1
          omega
        · have := dp_1 (Or.inr g.1) h1
          omega
        · obtain ⟨s, v⟩ := x
          have e2 : v = 0 := g.2
          subst e2
          have := dp_2 g.1 h1
          omega
        · obtain ⟨s, v⟩ := x
          have e2 : v = 0 := g.2
          subst e2
          have := dp_3 g.1 h1
          omega
      refine wk1a h3 h4 hR hB he hN hN0 (m := k) hJ hs (by omega) hy.1 (ok x (List.mem_cons_self ..)) h1 (by omega) (fun J2 s9 hJ2 s2 l2 => ?_)
      refine ih (x1 e x st) m (i + 1) s9 J2 hJ2 s2 (by rw [l2]; omega) hy.2 (fun y hm => ok y (List.mem_cons_of_mem _ hm)) (by rw [l2]; exact hd2) (by omega) (fun J3 s9 g1 g2 g4 => ?_)
      have h := KK J3 s9 g1 g2 g4
      rw [List.length_cons, show i + ((l.length + 1 : Nat) : Int) = i + 1 + (l.length : Int) by omega] at h
      exact h
theorem wkpa {X : Nat × (Nat → Int32)} {d : Nat} {M : zA} {R : zR} {P : zP} {p1 p2 p3 p4 p5 p6 : Int} (h3 : R 1 3 = some 5) (h4 : R 1 4 = some 6) (hR : zRok R) {B : zA} {e : en6} (hB : B 1 11 = e.1 ∧ B 1 12 = e.2.1 ∧ B 1 13 = e.2.2.1 ∧ B 1 14 = e.2.2.2.1 ∧ B 1 15 = e.2.2.2.2.1 ∧ B 1 16 = e.2.2.2.2.2) (he : e6r e) {N : Int} (hN : B 1 5 = N) (hN0 : 0 ≤ N ∧ N ≤ 121) {x : Int × Int} {i : Int} {s9 : Option Value} {J : zA} (hJ : zK (kL [7] [(1, 10)]) B J) (hx : B 5 i = x.1 ∧ B 6 i = x.2) (q : ¬ x.1 = 59 ∧ ¬ x.1 = 63 ∧ (-1 ≤ x.1 ∧ x.1 ≤ 255)) (hi : 0 ≤ i ∧ i < N) (KK : ∀ s9 : Option Value, zW X (d + 4) 38 59 [some (.ref 1), some (zi p1), some (zi p2), some (zi p3), some (zi p4), some (zi p5), some (zi p6), some (zi 1), some (zi (i + 1)), s9] [] J M R P) : zW X (d + 4) 38 59 [some (.ref 1), some (zi p1), some (zi p2), some (zi p3), some (zi p4), some (zi p5), some (zi p6), some (zi 1), some (zi i), s9] [] J M R P := by
  show zW _ _ _ _ [some (.ref 1), some (zi p1), some (zi p2), some (zi p3), some (zi p4), some (zi p5), some (zi p6), some (zi 1), some (zi i), s9] _ _ _ _ _
  refine z_iload8 gi_38_59 ?_
  refine z_aload0 gi_38_61 ?_
  refine z_getI (v := N) gi_38_62 gk_1 ((hJ 1 5 rfl).trans hN) ?_
  refine z_icmp_geF gi_38_65 (by omega) (by omega) (by omega) ?_
  refine z_aload0 gi_38_68 ?_
  refine z_getR (r := 5) gi_38_69 gk_1 (h3) ?_
  refine z_iload8 gi_38_72 ?_
  refine z_iald (v := x.1) gi_38_74 gk_5 (by decide) (by omega) ((hJ 5 _ rfl).trans hx.1) ?_
  refine z_istore (ls1 := [some (.ref 1), some (zi p1), some (zi p2), some (zi p3), some (zi p4), some (zi p5), some (zi p6), some (zi 1), some (zi i), some (zi x.1)]) gi_38_75 rfl ?_
  refine z_iload7 gi_38_77 ?_
  refine z_if_eqF gi_38_79 zr_1 (by decide) ?_
  refine z_iload9 gi_38_82 ?_
  refine z_pushJ gp_38_84 ?_
  refine z_icmp_eqF gi_38_86 (by omega) zr_59 (by omega) ?_
  refine z_pushJ gp_38_89 ?_
  refine z_goto gi_38_90 ?_
  refine z_istore (ls1 := [some (.ref 1), some (zi p1), some (zi p2), some (zi p3), some (zi p4), some (zi p5), some (zi p6), some (zi 1), some (zi i), some (zi x.1)]) gi_38_94 rfl ?_
  refine z_goto gi_38_96 ?_
  refine z_iinc (c := 1) (e := i + 1) (ls1 := [some (.ref 1), some (zi p1), some (zi p2), some (zi p3), some (zi p4), some (zi p5), some (zi p6), some (zi 1), some (zi (i + 1)), some (zi x.1)]) gi_38_148 rfl rfl rfl rfl ?_
  refine z_goto gi_38_151 ?_
  show zW _ _ _ _ [some (.ref 1), some (zi p1), some (zi p2), some (zi p3), some (zi p4), some (zi p5), some (zi p6), some (zi 1), some (zi (i + 1)), some (zi x.1)] [] _ _ _ _
  exact KK (some (zi x.1))
theorem wkqa {X : Nat × (Nat → Int32)} {d : Nat} {M : zA} {R : zR} {P : zP} {p1 p2 p3 p4 p5 p6 : Int} (h3 : R 1 3 = some 5) (h4 : R 1 4 = some 6) (hR : zRok R) {B : zA} {e : en6} (hB : B 1 11 = e.1 ∧ B 1 12 = e.2.1 ∧ B 1 13 = e.2.2.1 ∧ B 1 14 = e.2.2.2.1 ∧ B 1 15 = e.2.2.2.2.1 ∧ B 1 16 = e.2.2.2.2.2) (he : e6r e) {N : Int} (hN : B 1 5 = N) (hN0 : 0 ≤ N ∧ N ≤ 121) {J : zA} (hJ : zK (kL [7] [(1, 10)]) B J) : ∀ (l : List (Int × Int)) (i : Int) (s9 : Option Value), lay B 5 6 i l → (∀ y ∈ l, okc y) → (0 ≤ i ∧ i + (l.length : Int) ≤ N) → (∀ s9 : Option Value, zW X (d + 4) 38 59 [some (.ref 1), some (zi p1), some (zi p2), some (zi p3), some (zi p4), some (zi p5), some (zi p6), some (zi 1), some (zi (i + (l.length : Int))), s9] [] J M R P) → zW X (d + 4) 38 59 [some (.ref 1), some (zi p1), some (zi p2), some (zi p3), some (zi p4), some (zi p5), some (zi p6), some (zi 1), some (zi i), s9] [] J M R P := by
  intro l
  induction l with
  | nil =>
    intro i s9 hy ok hi KK
    have h := KK s9
    rw [show i + (([] : List (Int × Int)).length : Int) = i by show i + ((0 : Nat) : Int) = i; omega] at h
    exact h
  | cons x l ih =>
    intro i s9 hy ok hi KK
    rw [List.length_cons] at hi
    refine wkpa h3 h4 hR hB he hN hN0 hJ hy.1 (okc_s (ok x (List.mem_cons_self ..))) (by omega) (fun s9 => ?_)
    refine ih (i + 1) s9 hy.2 (fun y hm => ok y (List.mem_cons_of_mem _ hm)) (by omega) (fun s9 => ?_)
    have h := KK s9
    rw [List.length_cons, show i + ((l.length + 1 : Nat) : Int) = i + 1 + (l.length : Int) by omega] at h
    exact h
theorem wkea {X : Nat × (Nat → Int32)} {d : Nat} {M : zA} {R : zR} {P : zP} {p1 p2 p3 p4 p5 p6 : Int} (h3 : R 1 3 = some 5) (h4 : R 1 4 = some 6) (hR : zRok R) {B : zA} {e : en6} (hB : B 1 11 = e.1 ∧ B 1 12 = e.2.1 ∧ B 1 13 = e.2.2.1 ∧ B 1 14 = e.2.2.2.1 ∧ B 1 15 = e.2.2.2.2.1 ∧ B 1 16 = e.2.2.2.2.2) (he : e6r e) {N : Int} (hN : B 1 5 = N) (hN0 : 0 ≤ N ∧ N ≤ 121) {i : Int} {s9 : Option Value} {J : zA}  (hJ : zK (kL [7] [(1, 10)]) B J) (hx : B 5 i = 59) (hi : 0 ≤ i ∧ i < N) (KK : ∀ s9 : Option Value, zW X (d + 4) 38 59 [some (.ref 1), some (zi p1), some (zi p2), some (zi p3), some (zi p4), some (zi p5), some (zi p6), some (zi 0), some (zi (i + 1)), s9] [] J M R P) : zW X (d + 4) 38 59 [some (.ref 1), some (zi p1), some (zi p2), some (zi p3), some (zi p4), some (zi p5), some (zi p6), some (zi 1), some (zi i), s9] [] J M R P := by
  show zW _ _ _ _ [some (.ref 1), some (zi p1), some (zi p2), some (zi p3), some (zi p4), some (zi p5), some (zi p6), some (zi 1), some (zi i), s9] _ _ _ _ _
  refine z_iload8 gi_38_59 ?_
  refine z_aload0 gi_38_61 ?_
  refine z_getI (v := N) gi_38_62 gk_1 ((hJ 1 5 rfl).trans hN) ?_
  refine z_icmp_geF gi_38_65 (by omega) (by omega) (by omega) ?_
  refine z_aload0 gi_38_68 ?_
  refine z_getR (r := 5) gi_38_69 gk_1 (h3) ?_
  refine z_iload8 gi_38_72 ?_
  refine z_iald (v := 59) gi_38_74 gk_5 (by decide) (by omega) ((hJ 5 _ rfl).trans hx) ?_
  refine z_istore (ls1 := [some (.ref 1), some (zi p1), some (zi p2), some (zi p3), some (zi p4), some (zi p5), some (zi p6), some (zi 1), some (zi i), some (zi 59)]) gi_38_75 rfl ?_
  refine z_iload7 gi_38_77 ?_
  refine z_if_eqF gi_38_79 zr_1 (by decide) ?_
  refine z_iload9 gi_38_82 ?_
  refine z_pushJ gp_38_84 ?_
  refine z_icmp_eqT gi_38_86 zr_59 zr_59 (by decide) ?_
  refine z_pushJ gp_38_93 ?_
  refine z_istore (ls1 := [some (.ref 1), some (zi p1), some (zi p2), some (zi p3), some (zi p4), some (zi p5), some (zi p6), some (zi 0), some (zi i), some (zi 59)]) gi_38_94 rfl ?_
  refine z_goto gi_38_96 ?_
  refine z_iinc (c := 1) (e := i + 1) (ls1 := [some (.ref 1), some (zi p1), some (zi p2), some (zi p3), some (zi p4), some (zi p5), some (zi p6), some (zi 0), some (zi (i + 1)), some (zi 59)]) gi_38_148 rfl rfl rfl rfl ?_
  refine z_goto gi_38_151 ?_
  show zW _ _ _ _ [some (.ref 1), some (zi p1), some (zi p2), some (zi p3), some (zi p4), some (zi p5), some (zi p6), some (zi 0), some (zi (i + 1)), some (zi 59)] [] _ _ _ _
  exact KK _
theorem wkta {X : Nat × (Nat → Int32)} {d : Nat} {M : zA} {R : zR} {P : zP} {p1 p2 p3 p4 p5 p6 : Int} (h3 : R 1 3 = some 5) (h4 : R 1 4 = some 6) (hR : zRok R) {B : zA} {e : en6} (hB : B 1 11 = e.1 ∧ B 1 12 = e.2.1 ∧ B 1 13 = e.2.2.1 ∧ B 1 14 = e.2.2.2.1 ∧ B 1 15 = e.2.2.2.2.1 ∧ B 1 16 = e.2.2.2.2.2) (he : e6r e) {N : Int} (hN : B 1 5 = N) (hN0 : 0 ≤ N ∧ N ≤ 121) {i : Int} {s9 : Option Value} {J : zA} {v : Int} (hJ : zK (kL [7] [(1, 10)]) B J) (hx : B 5 i = 63) (hi : 0 ≤ i ∧ i < N) (hs : sok J [v]) (rv : -2147483648 ≤ v ∧ v < 2147483648) (K1 : v = 0 → ∀ s9 : Option Value, zW X (d + 4) 38 59 [some (.ref 1), some (zi p1), some (zi p2), some (zi p3), some (zi p4), some (zi p5), some (zi p6), some (zi 1), some (zi (i + 1)), s9] [] (zU J 1 10 (1 - 1)) M R P) (K0 : ¬ v = 0 → ∀ s9 : Option Value, zW X (d + 4) 38 59 [some (.ref 1), some (zi p1), some (zi p2), some (zi p3), some (zi p4), some (zi p5), some (zi p6), some (zi 0), some (zi (i + 1)), s9] [] (zU J 1 10 (1 - 1)) M R P) : zW X (d + 4) 38 59 [some (.ref 1), some (zi p1), some (zi p2), some (zi p3), some (zi p4), some (zi p5), some (zi p6), some (zi 0), some (zi i), s9] [] J M R P := by
  show zW _ _ _ _ [some (.ref 1), some (zi p1), some (zi p2), some (zi p3), some (zi p4), some (zi p5), some (zi p6), some (zi 0), some (zi i), s9] _ _ _ _ _
  refine z_iload8 gi_38_59 ?_
  refine z_aload0 gi_38_61 ?_
  refine z_getI (v := N) gi_38_62 gk_1 ((hJ 1 5 rfl).trans hN) ?_
  refine z_icmp_geF gi_38_65 (by omega) (by omega) (by omega) ?_
  refine z_aload0 gi_38_68 ?_
  refine z_getR (r := 5) gi_38_69 gk_1 (h3) ?_
  refine z_iload8 gi_38_72 ?_
  refine z_iald (v := 63) gi_38_74 gk_5 (by decide) (by omega) ((hJ 5 _ rfl).trans hx) ?_
  refine z_istore (ls1 := [some (.ref 1), some (zi p1), some (zi p2), some (zi p3), some (zi p4), some (zi p5), some (zi p6), some (zi 0), some (zi i), some (zi 63)]) gi_38_75 rfl ?_
  refine z_iload7 gi_38_77 ?_
  refine z_if_eqT gi_38_79 zr_0 (by decide) ?_
  refine z_iload9 gi_38_99 ?_
  refine z_pushJ gp_38_101 ?_
  refine z_icmp_neT gi_38_103 zr_63 zr_59 (by decide) ?_
  refine z_iload9 gi_38_111 ?_
  refine z_pushJ gp_38_113 ?_
  refine z_icmp_neF gi_38_115 zr_63 zr_63 (by decide) ?_
  refine z_aload0 gi_38_118 ?_
  refine z_callVx (As := []) gi_38_119 rfl gk_1 (Nat.le_of_ble_eq_true rfl) (Nat.le_of_ble_eq_true rfl) (pop_k (n := 1) (v := v) hR (by exact hs.1) (by decide) (by exact hs.2.1.1)) ?_
  show zW _ _ _ _ _ (_ :: _) _ _ _ _
  refine z_if_ne gi_38_122 (by omega) (fun h1 => ?_) (fun h1 => ?_)
  · refine z_pushJ gp_38_129 ?_
    refine z_istore (ls1 := [some (.ref 1), some (zi p1), some (zi p2), some (zi p3), some (zi p4), some (zi p5), some (zi p6), some (zi 0), some (zi i), some (zi 63)]) gi_38_130 rfl ?_
    refine z_goto gi_38_132 ?_
    refine z_iinc (c := 1) (e := i + 1) (ls1 := [some (.ref 1), some (zi p1), some (zi p2), some (zi p3), some (zi p4), some (zi p5), some (zi p6), some (zi 0), some (zi (i + 1)), some (zi 63)]) gi_38_148 rfl rfl rfl rfl ?_
    refine z_goto gi_38_151 ?_
    show zW _ _ _ _ [some (.ref 1), some (zi p1), some (zi p2), some (zi p3), some (zi p4), some (zi p5), some (zi p6), some (zi 0), some (zi (i + 1)), some (zi 63)] [] _ _ _ _
    exact K0 (by omega) _
  · refine z_pushJ gp_38_125 ?_
    refine z_goto gi_38_126 ?_
    refine z_istore (ls1 := [some (.ref 1), some (zi p1), some (zi p2), some (zi p3), some (zi p4), some (zi p5), some (zi p6), some (zi 1), some (zi i), some (zi 63)]) gi_38_130 rfl ?_
    refine z_goto gi_38_132 ?_
    refine z_iinc (c := 1) (e := i + 1) (ls1 := [some (.ref 1), some (zi p1), some (zi p2), some (zi p3), some (zi p4), some (zi p5), some (zi p6), some (zi 1), some (zi (i + 1)), some (zi 63)]) gi_38_148 rfl rfl rfl rfl ?_
    refine z_goto gi_38_151 ?_
    show zW _ _ _ _ [some (.ref 1), some (zi p1), some (zi p2), some (zi p3), some (zi p4), some (zi p5), some (zi p6), some (zi 1), some (zi (i + 1)), some (zi 63)] [] _ _ _ _
    exact K1 (by omega) _
theorem wkra {X : Nat × (Nat → Int32)} {d : Nat} {M : zA} {R : zR} {P : zP} {p1 p2 p3 p4 p5 p6 : Int} (h3 : R 1 3 = some 5) (h4 : R 1 4 = some 6) (hR : zRok R) {B : zA} {e : en6} (hB : B 1 11 = e.1 ∧ B 1 12 = e.2.1 ∧ B 1 13 = e.2.2.1 ∧ B 1 14 = e.2.2.2.1 ∧ B 1 15 = e.2.2.2.2.1 ∧ B 1 16 = e.2.2.2.2.2) (he : e6r e) {N : Int} (hN : B 1 5 = N) (hN0 : 0 ≤ N ∧ N ≤ 121) {i : Int} {s9 : Option Value} {J : zA} {v : Int} (hJ : zK (kL [7] [(1, 10)]) B J) (hx : B 5 i = 59) (hi : 0 ≤ i ∧ i < N) (hs : sok J [v]) (KK : P (some (zi v)) (zU J 1 10 (1 - 1)) M R) : zW X (d + 4) 38 59 [some (.ref 1), some (zi p1), some (zi p2), some (zi p3), some (zi p4), some (zi p5), some (zi p6), some (zi 0), some (zi i), s9] [] J M R P := by
  show zW _ _ _ _ [some (.ref 1), some (zi p1), some (zi p2), some (zi p3), some (zi p4), some (zi p5), some (zi p6), some (zi 0), some (zi i), s9] _ _ _ _ _
  refine z_iload8 gi_38_59 ?_
  refine z_aload0 gi_38_61 ?_
  refine z_getI (v := N) gi_38_62 gk_1 ((hJ 1 5 rfl).trans hN) ?_
  refine z_icmp_geF gi_38_65 (by omega) (by omega) (by omega) ?_
  refine z_aload0 gi_38_68 ?_
  refine z_getR (r := 5) gi_38_69 gk_1 (h3) ?_
  refine z_iload8 gi_38_72 ?_
  refine z_iald (v := 59) gi_38_74 gk_5 (by decide) (by omega) ((hJ 5 _ rfl).trans hx) ?_
  refine z_istore (ls1 := [some (.ref 1), some (zi p1), some (zi p2), some (zi p3), some (zi p4), some (zi p5), some (zi p6), some (zi 0), some (zi i), some (zi 59)]) gi_38_75 rfl ?_
  refine z_iload7 gi_38_77 ?_
  refine z_if_eqT gi_38_79 zr_0 (by decide) ?_
  refine z_iload9 gi_38_99 ?_
  refine z_pushJ gp_38_101 ?_
  refine z_icmp_neF gi_38_103 zr_59 zr_59 (by decide) ?_
  refine z_aload0 gi_38_106 ?_
  refine z_callVx (As := []) gi_38_107 rfl gk_1 (Nat.le_of_ble_eq_true rfl) (Nat.le_of_ble_eq_true rfl) (pop_k (n := 1) (v := v) hR (by exact hs.1) (by decide) (by exact hs.2.1.1)) ?_
  show zW _ _ _ _ _ (_ :: _) _ _ _ _
  refine z_iret gi_38_110 gr_38 ?_
  exact KK
theorem sok_0 {J : zA} {v : Int} : sok (zU J 1 10 (1 - 1)) [] := ⟨zU_e, trivial, fun w hw => by cases hw⟩
theorem wkla {X : Nat × (Nat → Int32)} {d : Nat} {M : zA} {R : zR} {P : zP} {p1 p2 p3 p4 p5 p6 : Int} (h3 : R 1 3 = some 5) (h4 : R 1 4 = some 6) (hR : zRok R) {B : zA} {e : en6} (hB : B 1 11 = e.1 ∧ B 1 12 = e.2.1 ∧ B 1 13 = e.2.2.1 ∧ B 1 14 = e.2.2.2.1 ∧ B 1 15 = e.2.2.2.2.1 ∧ B 1 16 = e.2.2.2.2.2) (he : e6r e) {N : Int} (hN : B 1 5 = N) (hN0 : 0 ≤ N ∧ N ≤ 121) : ∀ (ls : List lnT) (i : Int) (s9 : Option Value) (J : zA), zK (kL [7] [(1, 10)]) B J → sok J [] → (∀ x ∈ ls, gdl x) → lay B 5 6 i (tcs ls) → (0 ≤ i ∧ i + ((tcs ls).length : Int) = N) → (∀ J2 : zA, zK (kL [7] [(1, 10)]) B J2 → P (some (zi (evl e ls))) J2 M R) → zW X (d + 4) 38 59 [some (.ref 1), some (zi p1), some (zi p2), some (zi p3), some (zi p4), some (zi p5), some (zi p6), some (zi 0), some (zi i), s9] [] J M R P := by
  intro ls
  induction ls with
  | nil =>
    intro i s9 J hJ hs hg hy hi KK
    have e0 : ((tcs []).length : Int) = 0 := rfl
    rw [e0] at hi
    refine z_iload rfl rfl ?_
    refine z_aload rfl rfl ?_
    refine z_getI (v := N) rfl rfl ((hJ 1 5 rfl).trans hN) ?_
    refine z_icmp_geT rfl (by omega) (by omega) (by omega) ?_
    refine z_pushI (z := 0) rfl rfl ?_
    exact z_iret rfl rfl (KK J hJ)
  | cons x t ih =>
    intro i s9 J hJ hs hg hy hi KK
    obtain ⟨tt, b⟩ := x
    have gx := hg (tt, b) (List.mem_cons_self ..)
    have hg2 : ∀ x ∈ t, gdl x := fun x hm => hg x (List.mem_cons_of_mem _ hm)
    have etc : tcs ((tt, b) :: t) = (lcs (tt, b) ++ [(59, 0)]) ++ tcs t := rfl
    rw [etc] at hy hi
    obtain ⟨hy1, hy2⟩ := lay_tl _ _ i hy
    obtain ⟨hy3, hy4⟩ := lay_tl _ _ i hy1
    rw [List.length_append, List.length_append, List.length_singleton] at hi
    rw [List.length_append, List.length_singleton] at hy2
    have nn := (tcs t).length
    cases tt with
    | nil =>
      have el : lcs ([], b) = b := rfl
      rw [el] at hy2 hy3 hy4 hi
      have gb := gx.2
      refine wksa h3 h4 hR hB he hN hN0 b [] 1 i s9 J hJ hs (by show ((0 : Nat) : Int) + (b.length : Int) ≤ 120; omega) hy3 gb.1 (gb.2.1 0) (by omega) (fun J2 s9 k2 s2 l2 => ?_)
      rw [len1 l2] at s2
      refine wkra h3 h4 hR hB he hN hN0 k2 hy4.1.1 (by omega) s2 ?_
      rw [evl_1 (Or.inl rfl)] at KK
      exact KK _ (zK_x (a := 1) (x := 10) (v := 1 - 1) k2 rfl)
    | cons y u =>
      have ne : (y :: u) ≠ [] := by intro g; cases g
      have el : lcs (y :: u, b) = (y :: u) ++ (63, 0) :: b := rfl
      rw [el] at hy2 hy3 hy4 hi
      have gt : gd (y :: u) := gx.1.resolve_left ne
      have gb := gx.2
      obtain ⟨z1, z2⟩ := lay_tl _ _ i hy3
      rw [List.length_append, List.length_cons (a := ((63 : Int), (0 : Int)))] at hy2 hy4 hi
      refine wksa h3 h4 hR hB he hN hN0 (y :: u) [] 1 i s9 J hJ hs (by show ((0 : Nat) : Int) + ((y :: u).length : Int) ≤ 120; omega) z1 gt.1 (gt.2.1 0) (by omega) (fun J2 s9 k2 s2 l2 => ?_)
      rw [len1 l2] at s2
      have rv := s2.2.2 _ (List.mem_cons_self ..)
      have k3 := zK_x (a := 1) (x := 10) (v := 1 - 1) k2 (show (kL [7] [(1, 10)]) 1 10 = false from rfl)
      refine wkta h3 h4 hR hB he hN hN0 k2 z2.1.1 (by omega) s2 rv (fun v0 s9 => ?_) (fun v0 s9 => ?_)
      · refine wkqa h3 h4 hR hB he hN hN0 k3 b (i + ((y :: u).length : Int) + 1) s9 z2.2 gb.1 (by omega) (fun s9 => ?_)
        have h59 := hy4.1.1
        rw [show i + (((y :: u).length + (b.length + 1) : Nat) : Int) = i + ((y :: u).length : Int) + 1 + (b.length : Int) by omega] at h59
        refine wkea h3 h4 hR hB he hN hN0 k3 h59 (by omega) (fun s9 => ?_)
        rw [evl_0 ne v0] at KK
        have q := ih (i + ((y :: u).length : Int) + 1 + (b.length : Int) + 1) s9 _ k3 (sok_0 (v := 0)) hg2 (by rw [show i + ((y :: u).length : Int) + 1 + (b.length : Int) + 1 = i + (((y :: u).length + (b.length + 1) + 1 : Nat) : Int) by omega]; exact hy2) (by omega) KK
        exact q
      · refine wksa h3 h4 hR hB he hN hN0 b [] 1 (i + ((y :: u).length : Int) + 1) s9 _ k3 (sok_0 (v := 0)) (by show ((0 : Nat) : Int) + (b.length : Int) ≤ 120; omega) z2.2 gb.1 (gb.2.1 0) (by omega) (fun J3 s9 g2 g3 g4 => ?_)
        rw [len1 g4] at g3
        have h59 := hy4.1.1
        rw [show i + (((y :: u).length + (b.length + 1) : Nat) : Int) = i + ((y :: u).length : Int) + 1 + (b.length : Int) by omega] at h59
        refine wkra h3 h4 hR hB he hN hN0 g2 h59 (by omega) g3 ?_
        rw [evl_1 (Or.inr v0)] at KK
        exact KK _ (zK_x (a := 1) (x := 10) (v := 1 - 1) g2 rfl)
