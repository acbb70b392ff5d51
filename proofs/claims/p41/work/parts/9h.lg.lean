abbrev lnT : Type := List (Int × Int) × List (Int × Int)
/-- a line: a test (none: no codes) and a body -/
noncomputable def pLn (c : Int → Int) (a : Int) : Bool × Int × lnT :=
  if (pE c 48 0 0 a).1 = true then (if c (pE c 48 0 0 a).2.1 = 63 then ((pE c 48 0 0 ((pE c 48 0 0 a).2.1 + 1)).1, (pE c 48 0 0 ((pE c 48 0 0 a).2.1 + 1)).2.1, ((pE c 48 0 0 a).2.2, (pE c 48 0 0 ((pE c 48 0 0 a).2.1 + 1)).2.2)) else (true, (pE c 48 0 0 a).2.1, ([], (pE c 48 0 0 a).2.2))) else (false, (pE c 48 0 0 a).2.1, ([], []))
/-- its codes as the class has them, but for the line's end -/
noncomputable def lcs (l : lnT) : List (Int × Int) := match l.1 with
  | [] => l.2
  | x :: t => (x :: t) ++ (63, 0) :: l.2
noncomputable def pT (c : Int → Int) (f : Int) : Nat → Int → Bool × Int × List lnT
  | 0, a => (false, a, [])
  | m + 1, a => if (pLn c a).1 = true then (if f ≤ (pLn c a).2.1 then (true, (pLn c a).2.1, [(pLn c a).2.2]) else if c (pLn c a).2.1 = 59 then ((pT c f m ((pLn c a).2.1 + 1)).1, (pT c f m ((pLn c a).2.1 + 1)).2.1, (pLn c a).2.2 :: (pT c f m ((pLn c a).2.1 + 1)).2.2) else (false, (pLn c a).2.1, [])) else (false, (pLn c a).2.1, [])
noncomputable def tcs : List lnT → List (Int × Int)
  | [] => []
  | l :: t => (lcs l ++ [(59, 0)]) ++ tcs t
theorem lcs_0 {b : List (Int × Int)} : lcs ([], b) = b := rfl
theorem lcs_1 {t b : List (Int × Int)} (h : t ≠ []) : lcs (t, b) = t ++ (63, 0) :: b := by
  cases t with
  | nil => exact absurd rfl h
  | cons x t => rfl
/-- codes that may stand and leave one value -/
abbrev gd (l : List (Int × Int)) : Prop := (∀ y ∈ l, okc y) ∧ (∀ n, dpl l n = some (n + 1)) ∧ l ≠ []
abbrev gdl (l : lnT) : Prop := (l.1 = [] ∨ gd l.1) ∧ gd l.2
theorem pE_gd {c : Int → Int} {f a : Int} (ht : tp c f) (ha : 0 ≤ a ∧ a ≤ f) (h : (pE c 48 0 0 a).1 = true) : (a < (pE c 48 0 0 a).2.1 ∧ ((pE c 48 0 0 a).2.2.length : Int) ≤ (pE c 48 0 0 a).2.1 - a) ∧ gd (pE c 48 0 0 a).2.2 := by
  have g := (pE_g ht 48 0 0 a (by omega) ha).2 h
  exact ⟨⟨g.1.1, g.1.2.1⟩, g.2.1, g.2.2, g.1.2.2⟩
theorem pLn_g {c : Int → Int} {f a : Int} (ht : tp c f) (ha : 0 ≤ a ∧ a ≤ f) : (a ≤ (pLn c a).2.1 ∧ (pLn c a).2.1 ≤ f) ∧ ((pLn c a).1 = true → (a < (pLn c a).2.1 ∧ ((lcs (pLn c a).2.2).length : Int) ≤ (pLn c a).2.1 - a) ∧ gdl (pLn c a).2.2) := by
  have g0 := (pE_g ht 48 0 0 a (by omega) ha).1
  unfold pLn
  cases h : (pE c 48 0 0 a).1 with
  | false =>
    rw [if_neg (by decide)]
    exact ⟨g0, fun t => by cases t⟩
  | true =>
    rw [if_pos rfl]
    have g := pE_gd ht ha h
    by_cases q : c (pE c 48 0 0 a).2.1 = 63
    · rw [if_pos q]
      have hp := tp_lt ht (show ¬ c (pE c 48 0 0 a).2.1 = -1 by omega)
      have g1 := (pE_g ht 48 0 0 ((pE c 48 0 0 a).2.1 + 1) (by omega) (by omega)).1
      refine ⟨⟨?_, g1.2⟩, fun t => ?_⟩
      · show a ≤ (pE c 48 0 0 ((pE c 48 0 0 a).2.1 + 1)).2.1
        omega
      · have g2 := pE_gd (a := (pE c 48 0 0 a).2.1 + 1) ht (by omega) t
        refine ⟨⟨?_, ?_⟩, Or.inr g.2, g2.2⟩
        · show a < (pE c 48 0 0 ((pE c 48 0 0 a).2.1 + 1)).2.1
          omega
        · show ((lcs ((pE c 48 0 0 a).2.2, (pE c 48 0 0 ((pE c 48 0 0 a).2.1 + 1)).2.2)).length : Int) ≤ (pE c 48 0 0 ((pE c 48 0 0 a).2.1 + 1)).2.1 - a
          rw [lcs_1 g.2.2.2, List.length_append, List.length_cons]
          have e1 := g.1.2
          have e2 := g2.1.2
          omega
    · rw [if_neg q]
      exact ⟨g0, fun _ => ⟨⟨g.1.1, g.1.2⟩, Or.inl rfl, g.2⟩⟩
theorem pT_g {c : Int → Int} {f : Int} (ht : tp c f) : ∀ (m : Nat) (a : Int), (0 ≤ a ∧ a ≤ f) → (a ≤ (pT c f m a).2.1 ∧ (pT c f m a).2.1 ≤ f) ∧ ((pT c f m a).1 = true → (∀ l ∈ (pT c f m a).2.2, gdl l) ∧ (pT c f m a).2.2 ≠ []) := by
  intro m
  induction m with
  | zero => exact fun a h => ⟨⟨Int.le_refl a, h.2⟩, fun t => by cases t⟩
  | succ m ih =>
    intro a h
    have g := pLn_g ht h
    cases hb : (pLn c a).1 with
    | false =>
      have e : pT c f (m + 1) a = (false, (pLn c a).2.1, []) := by
        show (if _ then _ else _) = _
        rw [if_neg (by rw [hb]; decide)]
      rw [e]
      exact ⟨g.1, fun t => by cases t⟩
    | true =>
      have g2 := g.2 hb
      by_cases q : f ≤ (pLn c a).2.1
      · have e : pT c f (m + 1) a = (true, (pLn c a).2.1, [(pLn c a).2.2]) := by
          show (if _ then _ else _) = _
          rw [if_pos hb, if_pos q]
        rw [e]
        refine ⟨g.1, fun _ => ⟨fun l hl => ?_, by intro t; cases t⟩⟩
        rcases List.mem_cons.mp hl with k | k
        · rw [k]; exact g2.2
        · cases k
      · by_cases q2 : c (pLn c a).2.1 = 59
        · have e : pT c f (m + 1) a = ((pT c f m ((pLn c a).2.1 + 1)).1, (pT c f m ((pLn c a).2.1 + 1)).2.1, (pLn c a).2.2 :: (pT c f m ((pLn c a).2.1 + 1)).2.2) := by
            show (if _ then _ else _) = _
            rw [if_pos hb, if_neg q, if_pos q2]
          rw [e]
          have g3 := ih ((pLn c a).2.1 + 1) (by omega)
          refine ⟨⟨?_, g3.1.2⟩, fun t => ⟨fun l hl => ?_, by intro t; cases t⟩⟩
          · show a ≤ (pT c f m ((pLn c a).2.1 + 1)).2.1
            omega
          · rcases List.mem_cons.mp hl with k | k
            · rw [k]; exact g2.2
            · exact (g3.2 t).1 l k
        · have e : pT c f (m + 1) a = (false, (pLn c a).2.1, []) := by
            show (if _ then _ else _) = _
            rw [if_pos hb, if_neg q, if_neg q2]
          rw [e]
          exact ⟨g.1, fun t => by cases t⟩
theorem pT_f {c : Int → Int} {f a : Int} {m : Nat} (h : (pLn c a).1 = false) : pT c f (m + 1) a = (false, (pLn c a).2.1, []) := by
  show (if _ then _ else _) = _
  rw [if_neg (by rw [h]; decide)]
theorem pT_e {c : Int → Int} {f a : Int} {m : Nat} (h : (pLn c a).1 = true) (q : f ≤ (pLn c a).2.1) : pT c f (m + 1) a = (true, (pLn c a).2.1, [(pLn c a).2.2]) := by
  show (if _ then _ else _) = _
  rw [if_pos h, if_pos q]
theorem pT_t {c : Int → Int} {f a : Int} {m : Nat} (h : (pLn c a).1 = true) (q : ¬ f ≤ (pLn c a).2.1) (q2 : c (pLn c a).2.1 = 59) : pT c f (m + 1) a = ((pT c f m ((pLn c a).2.1 + 1)).1, (pT c f m ((pLn c a).2.1 + 1)).2.1, (pLn c a).2.2 :: (pT c f m ((pLn c a).2.1 + 1)).2.2) := by
  show (if _ then _ else _) = _
  rw [if_pos h, if_neg q, if_pos q2]
theorem pT_n {c : Int → Int} {f a : Int} {m : Nat} (h : (pLn c a).1 = true) (q : ¬ f ≤ (pLn c a).2.1) (q2 : ¬ c (pLn c a).2.1 = 59) : pT c f (m + 1) a = (false, (pLn c a).2.1, []) := by
  show (if _ then _ else _) = _
  rw [if_pos h, if_neg q, if_neg q2]
/-- a line as a part -/
noncomputable def lrs (c : Int → Int) (a : Int) : rs := ((pLn c a).1, (pLn c a).2.1, lcs (pLn c a).2.2)
theorem lrs_f {c : Int → Int} {a : Int} (h : (pE c 48 0 0 a).1 = false) : lrs c a = (false, (pE c 48 0 0 a).2.1, []) := by
  unfold lrs pLn
  rw [if_neg (by rw [h]; decide)]
  rfl
theorem lrs_n {c : Int → Int} {a : Int} (h : (pE c 48 0 0 a).1 = true) (q : ¬ c (pE c 48 0 0 a).2.1 = 63) : lrs c a = (true, (pE c 48 0 0 a).2.1, (pE c 48 0 0 a).2.2) := by
  unfold lrs pLn
  rw [if_pos h, if_neg q]
  rfl
theorem lrs_t {c : Int → Int} {f a : Int} (ht : tp c f) (ha : 0 ≤ a ∧ a ≤ f) (h : (pE c 48 0 0 a).1 = true) (q : c (pE c 48 0 0 a).2.1 = 63) : lrs c a = ((pE c 48 0 0 ((pE c 48 0 0 a).2.1 + 1)).1, (pE c 48 0 0 ((pE c 48 0 0 a).2.1 + 1)).2.1, (pE c 48 0 0 a).2.2 ++ (63, 0) :: (pE c 48 0 0 ((pE c 48 0 0 a).2.1 + 1)).2.2) := by
  have g := pE_gd ht ha h
  unfold lrs pLn
  rw [if_pos h, if_pos q]
  show ((pE c 48 0 0 ((pE c 48 0 0 a).2.1 + 1)).1, (pE c 48 0 0 ((pE c 48 0 0 a).2.1 + 1)).2.1, lcs ((pE c 48 0 0 a).2.2, (pE c 48 0 0 ((pE c 48 0 0 a).2.1 + 1)).2.2)) = _
  rw [lcs_1 g.2.2.2]
