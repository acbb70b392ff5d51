noncomputable def dgi (s : Int) : Int := if dg s then 1 else 0
noncomputable def nmi (s : Int) : Int := if nmd s then 1 else 0
theorem dgi_r (s : Int) : (dgi s = 1 ∧ dg s) ∨ (dgi s = 0 ∧ ¬ dg s) := by
  unfold dgi
  by_cases h : dg s
  · rw [if_pos h]; exact Or.inl ⟨rfl, h⟩
  · rw [if_neg h]; exact Or.inr ⟨rfl, h⟩
theorem nmi_r (s : Int) : (nmi s = 1 ∧ nmd s) ∨ (nmi s = 0 ∧ ¬ nmd s) := by
  unfold nmi
  by_cases h : nmd s
  · rw [if_pos h]; exact Or.inl ⟨rfl, h⟩
  · rw [if_neg h]; exact Or.inr ⟨rfl, h⟩
/-- codes laid from the i-th cell on -/
def lay (J : zA) (p q : Nat) : Int → List (Int × Int) → Prop
  | _, [] => True
  | i, x :: l => (J p i = x.1 ∧ J q i = x.2) ∧ lay J p q (i + 1) l
theorem lay_app {J : zA} {p q : Nat} : ∀ (l m : List (Int × Int)) (i : Int), lay J p q i l → lay J p q (i + l.length) m → lay J p q i (l ++ m) := by
  intro l
  induction l with
  | nil =>
    intro m i _ h
    have e : i + (([] : List (Int × Int)).length : Int) = i := by show i + ((0 : Nat) : Int) = i; omega
    rw [e] at h
    exact h
  | cons x l ih =>
    intro m i h g
    refine ⟨h.1, ih m (i + 1) h.2 ?_⟩
    have e : i + ((x :: l).length : Int) = i + 1 + (l.length : Int) := by rw [List.length_cons]; omega
    rw [e] at g
    exact g
theorem lay_keep {J J2 : zA} {p q : Nat} : ∀ (l : List (Int × Int)) (i n : Int), lay J p q i l → i + (l.length : Int) ≤ n → (∀ j, j < n → J2 p j = J p j ∧ J2 q j = J q j) → lay J2 p q i l := by
  intro l
  induction l with
  | nil => exact fun _ _ _ _ _ => trivial
  | cons x l ih =>
    intro i n h hn hk
    rw [List.length_cons] at hn
    have q := hk i (by omega)
    exact ⟨⟨q.1.trans h.1.1, q.2.trans h.1.2⟩, ih (i + 1) n h.2 (by omega) hk⟩
theorem isDigit_k {X : Nat × (Nat → Int32)} {d : Nat} {J M : zA} {R : zR} {s : Int} (hs : -128 ≤ s ∧ s ≤ 255) : zW X d 35 0 (gEn 35 [(zi s)]) [] J M R (zPu (dgi s) J M R) := by
  show zW _ _ _ _ [some (zi s)] _ _ _ _ _
  refine z_iload0 rfl ?_
  refine z_pushJ gp_35_1 ?_
  refine z_icmp_lt rfl (by omega) zr_48 (fun h1 => ?_) (fun h1 => ?_)
  · refine z_pushJ gp_35_16 ?_
    refine z_bret0 gi_35_17 gr_35 ?_
    exact ⟨congrArg (fun v => some (zi v)) (by unfold dgi; first | rw [if_pos (by omega)] | rw [if_neg (by omega)]), rfl, rfl, rfl⟩
  · refine z_iload0 rfl ?_
    refine z_pushJ gp_35_7 ?_
    refine z_icmp_gt rfl (by omega) zr_57 (fun h2 => ?_) (fun h2 => ?_)
    · refine z_pushJ gp_35_16 ?_
      refine z_bret0 gi_35_17 gr_35 ?_
      exact ⟨congrArg (fun v => some (zi v)) (by unfold dgi; first | rw [if_pos (by omega)] | rw [if_neg (by omega)]), rfl, rfl, rfl⟩
    · refine z_pushJ gp_35_12 ?_
      refine z_goto rfl ?_
      refine z_bret1 gi_35_17 gr_35 ?_
      exact ⟨congrArg (fun v => some (zi v)) (by unfold dgi; first | rw [if_pos (by omega)] | rw [if_neg (by omega)]), rfl, rfl, rfl⟩
theorem isName_k {X : Nat × (Nat → Int32)} {d : Nat} {J M : zA} {R : zR} {s : Int} (hs : -128 ≤ s ∧ s ≤ 255) : zW X d 36 0 (gEn 36 [(zi s)]) [] J M R (zPu (nmi s) J M R) := by
  show zW _ _ _ _ [some (zi s)] _ _ _ _ _
  refine z_iload0 rfl ?_
  refine z_pushJ gp_36_1 ?_
  refine z_icmp_eq rfl (by omega) zr_104 (fun h1 => ?_) (fun h1 => ?_)
  · refine z_pushJ gp_36_36 ?_
    refine z_goto gi_36_37 ?_
    refine z_bret1 gi_36_41 gr_36 ?_
    exact ⟨congrArg (fun v => some (zi v)) (by unfold nmi; first | rw [if_pos (by omega)] | rw [if_neg (by omega)]), rfl, rfl, rfl⟩
  · refine z_iload0 rfl ?_
    refine z_pushJ gp_36_7 ?_
    refine z_icmp_eq rfl (by omega) zr_100 (fun h2 => ?_) (fun h2 => ?_)
    · refine z_pushJ gp_36_36 ?_
      refine z_goto gi_36_37 ?_
      refine z_bret1 gi_36_41 gr_36 ?_
      exact ⟨congrArg (fun v => some (zi v)) (by unfold nmi; first | rw [if_pos (by omega)] | rw [if_neg (by omega)]), rfl, rfl, rfl⟩
    · refine z_iload0 rfl ?_
      refine z_pushJ gp_36_13 ?_
      refine z_icmp_eq rfl (by omega) zr_107 (fun h3 => ?_) (fun h3 => ?_)
      · refine z_pushJ gp_36_36 ?_
        refine z_goto gi_36_37 ?_
        refine z_bret1 gi_36_41 gr_36 ?_
        exact ⟨congrArg (fun v => some (zi v)) (by unfold nmi; first | rw [if_pos (by omega)] | rw [if_neg (by omega)]), rfl, rfl, rfl⟩
      · refine z_iload0 rfl ?_
        refine z_pushJ gp_36_19 ?_
        refine z_icmp_eq rfl (by omega) zr_109 (fun h4 => ?_) (fun h4 => ?_)
        · refine z_pushJ gp_36_36 ?_
          refine z_goto gi_36_37 ?_
          refine z_bret1 gi_36_41 gr_36 ?_
          exact ⟨congrArg (fun v => some (zi v)) (by unfold nmi; first | rw [if_pos (by omega)] | rw [if_neg (by omega)]), rfl, rfl, rfl⟩
        · refine z_iload0 rfl ?_
          refine z_pushJ gp_36_25 ?_
          refine z_icmp_eq rfl (by omega) zr_99 (fun h5 => ?_) (fun h5 => ?_)
          · refine z_pushJ gp_36_36 ?_
            refine z_goto gi_36_37 ?_
            refine z_bret1 gi_36_41 gr_36 ?_
            exact ⟨congrArg (fun v => some (zi v)) (by unfold nmi; first | rw [if_pos (by omega)] | rw [if_neg (by omega)]), rfl, rfl, rfl⟩
          · refine z_iload0 rfl ?_
            refine z_pushJ gp_36_31 ?_
            refine z_icmp_ne rfl (by omega) zr_112 (fun h6 => ?_) (fun h6 => ?_)
            · refine z_pushJ gp_36_40 ?_
              refine z_bret0 gi_36_41 gr_36 ?_
              exact ⟨congrArg (fun v => some (zi v)) (by unfold nmi; first | rw [if_pos (by omega)] | rw [if_neg (by omega)]), rfl, rfl, rfl⟩
            · refine z_pushJ gp_36_36 ?_
              refine z_goto gi_36_37 ?_
              refine z_bret1 gi_36_41 gr_36 ?_
              exact ⟨congrArg (fun v => some (zi v)) (by unfold nmi; first | rw [if_pos (by omega)] | rw [if_neg (by omega)]), rfl, rfl, rfl⟩
theorem rankOf_k {X : Nat × (Nat → Int32)} {d : Nat} {J M : zA} {R : zR} {s : Int} (hs : -128 ≤ s ∧ s ≤ 255) : zW X d 37 0 (gEn 37 [(zi s)]) [] J M R (zPu (rk s) J M R) := by
  show zW _ _ _ _ [some (zi s)] _ _ _ _ _
  refine z_iload0 rfl ?_
  refine z_sw (T := [((37 : Int), 100), ((38 : Int), 94), ((42 : Int), 100), ((43 : Int), 98), ((45 : Int), 98), ((47 : Int), 100), ((60 : Int), 96), ((61 : Int), 96), ((62 : Int), 96), ((124 : Int), 92)]) rfl (by omega) rfl (fun q hq1 hxhq1 => ?_) (fun hq1 => ?_)
  · simp only [List.mem_cons, List.not_mem_nil, or_false] at hq1
    rcases hq1 with rfl | rfl | rfl | rfl | rfl | rfl | rfl | rfl | rfl | rfl
    · have hxhq1 : s = 37 := hxhq1
      refine z_pushJ gp_37_100 ?_
      refine z_iret gi_37_101 gr_37 ?_
      exact ⟨congrArg (fun v => some (zi v)) (by unfold rk; (repeat' split) <;> omega), rfl, rfl, rfl⟩
    · have hxhq1 : s = 38 := hxhq1
      refine z_pushJ gp_37_94 ?_
      refine z_iret rfl gr_37 ?_
      exact ⟨congrArg (fun v => some (zi v)) (by unfold rk; (repeat' split) <;> omega), rfl, rfl, rfl⟩
    · have hxhq1 : s = 42 := hxhq1
      refine z_pushJ gp_37_100 ?_
      refine z_iret gi_37_101 gr_37 ?_
      exact ⟨congrArg (fun v => some (zi v)) (by unfold rk; (repeat' split) <;> omega), rfl, rfl, rfl⟩
    · have hxhq1 : s = 43 := hxhq1
      refine z_pushJ gp_37_98 ?_
      refine z_iret gi_37_99 gr_37 ?_
      exact ⟨congrArg (fun v => some (zi v)) (by unfold rk; (repeat' split) <;> omega), rfl, rfl, rfl⟩
    · have hxhq1 : s = 45 := hxhq1
      refine z_pushJ gp_37_98 ?_
      refine z_iret gi_37_99 gr_37 ?_
      exact ⟨congrArg (fun v => some (zi v)) (by unfold rk; (repeat' split) <;> omega), rfl, rfl, rfl⟩
    · have hxhq1 : s = 47 := hxhq1
      refine z_pushJ gp_37_100 ?_
      refine z_iret gi_37_101 gr_37 ?_
      exact ⟨congrArg (fun v => some (zi v)) (by unfold rk; (repeat' split) <;> omega), rfl, rfl, rfl⟩
    · have hxhq1 : s = 60 := hxhq1
      refine z_pushJ gp_37_96 ?_
      refine z_iret gi_37_97 gr_37 ?_
      exact ⟨congrArg (fun v => some (zi v)) (by unfold rk; (repeat' split) <;> omega), rfl, rfl, rfl⟩
    · have hxhq1 : s = 61 := hxhq1
      refine z_pushJ gp_37_96 ?_
      refine z_iret gi_37_97 gr_37 ?_
      exact ⟨congrArg (fun v => some (zi v)) (by unfold rk; (repeat' split) <;> omega), rfl, rfl, rfl⟩
    · have hxhq1 : s = 62 := hxhq1
      refine z_pushJ gp_37_96 ?_
      refine z_iret gi_37_97 gr_37 ?_
      exact ⟨congrArg (fun v => some (zi v)) (by unfold rk; (repeat' split) <;> omega), rfl, rfl, rfl⟩
    · have hxhq1 : s = 124 := hxhq1
      refine z_pushJ gp_37_92 ?_
      refine z_iret rfl gr_37 ?_
      exact ⟨congrArg (fun v => some (zi v)) (by unfold rk; (repeat' split) <;> omega), rfl, rfl, rfl⟩
  · have hq1 : ∀ q ∈ [((37 : Int), 100), ((38 : Int), 94), ((42 : Int), 100), ((43 : Int), 98), ((45 : Int), 98), ((47 : Int), 100), ((60 : Int), 96), ((61 : Int), 96), ((62 : Int), 96), ((124 : Int), 92)], ¬ s = q.1 := hq1
    have hq1_0 : ¬ s = 37 := hq1 (37, 100) (by simp)
    have hq1_1 : ¬ s = 38 := hq1 (38, 94) (by simp)
    have hq1_2 : ¬ s = 42 := hq1 (42, 100) (by simp)
    have hq1_3 : ¬ s = 43 := hq1 (43, 98) (by simp)
    have hq1_4 : ¬ s = 45 := hq1 (45, 98) (by simp)
    have hq1_5 : ¬ s = 47 := hq1 (47, 100) (by simp)
    have hq1_6 : ¬ s = 60 := hq1 (60, 96) (by simp)
    have hq1_7 : ¬ s = 61 := hq1 (61, 96) (by simp)
    have hq1_8 : ¬ s = 62 := hq1 (62, 96) (by simp)
    have hq1_9 : ¬ s = 124 := hq1 (124, 92) (by simp)
    refine z_pushJ gp_37_102 ?_
    refine z_iret rfl gr_37 ?_
    exact ⟨congrArg (fun v => some (zi v)) (by unfold rk; (repeat' split) <;> omega), rfl, rfl, rfl⟩
theorem zW_m {X : Nat × (Nat → Int32)} {d k pc : Nat} {ls : List (Option Value)} {st : List Value} {J M : zA} {R : zR} {P P2 : zP} (h : zW X d k pc ls st J M R P) (hP : ∀ r J M R, P r J M R → P2 r J M R) : zW X d k pc ls st J M R P2 := gW_mono h (fun _ _ => zQ_m hP)
theorem rk_dg {s : Int} (h : dg s) : rk s = -1 := by
  unfold rk
  (repeat' split) <;> omega
theorem tp_r {c : Int → Int} {f : Int} (ht : tp c f) (i : Int) : 0 ≤ i → (-1 ≤ c i ∧ c i ≤ 255) := by
  intro h
  by_cases q : i < f
  · have := ht.2.1 i h q
    omega
  · have := ht.2.2 i (by omega)
    omega
