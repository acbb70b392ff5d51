abbrev rs : Type := Bool × Int × List (Int × Int)
noncomputable def rk (s : Int) : Int := if s = 124 then 0 else if s = 38 then 1 else if s = 60 ∨ s = 61 ∨ s = 62 then 2 else if s = 43 ∨ s = 45 then 3 else if s = 42 ∨ s = 47 ∨ s = 37 then 4 else -1
abbrev dg (s : Int) : Prop := 48 ≤ s ∧ s ≤ 57
abbrev nmd (s : Int) : Prop := s = 104 ∨ s = 100 ∨ s = 107 ∨ s = 109 ∨ s = 99 ∨ s = 112
/-- a tape: bytes below f, -1 elsewhere -/
abbrev tp (c : Int → Int) (f : Int) : Prop := (0 ≤ f ∧ f ≤ 120) ∧ (∀ i, 0 ≤ i → i < f → 0 ≤ c i ∧ c i ≤ 255) ∧ (∀ i, f ≤ i → c i = -1)
noncomputable def nu (c : Int → Int) : Nat → Int → Int → Int × Int
  | 0, a, v => (a, v)
  | n + 1, a, v => if dg (c a) then nu c n (a + 1) (v * 10 + c a - 48) else (a, v)
theorem nu_1 {c : Int → Int} {n : Nat} {a v : Int} (h : dg (c a)) : nu c (n + 1) a v = nu c n (a + 1) (v * 10 + c a - 48) := by
  show (if _ then _ else _) = _
  rw [if_pos h]
theorem nu_0 {c : Int → Int} {n : Nat} {a v : Int} (h : ¬ dg (c a)) : nu c (n + 1) a v = (a, v) := by
  show (if _ then _ else _) = _
  rw [if_neg h]
/-- a chain's loop: f reads what stands behind a sign -/
noncomputable def pL (f : Int → rs) (c : Int → Int) (r : Int) : Nat → Int → rs
  | 0, a => (true, a, [])
  | m + 1, a => if rk (c a) = r then (if (f (a + 1)).1 = true then ((pL f c r m (f (a + 1)).2.1).1, (pL f c r m (f (a + 1)).2.1).2.1, (f (a + 1)).2.2 ++ (c a, 0) :: (pL f c r m (f (a + 1)).2.1).2.2) else f (a + 1)) else (true, a, [])
theorem pL_n {f : Int → rs} {c : Int → Int} {r : Int} {m : Nat} {a : Int} (h : ¬ rk (c a) = r) : pL f c r (m + 1) a = (true, a, []) := by
  show (if _ then _ else _) = _
  rw [if_neg h]
theorem pL_f {f : Int → rs} {c : Int → Int} {r : Int} {m : Nat} {a : Int} (h : rk (c a) = r) (g : (f (a + 1)).1 = false) : pL f c r (m + 1) a = f (a + 1) := by
  show (if _ then _ else _) = _
  rw [if_pos h, if_neg (by rw [g]; decide)]
theorem pL_t {f : Int → rs} {c : Int → Int} {r : Int} {m : Nat} {a : Int} (h : rk (c a) = r) (g : (f (a + 1)).1 = true) : pL f c r (m + 1) a = ((pL f c r m (f (a + 1)).2.1).1, (pL f c r m (f (a + 1)).2.1).2.1, (f (a + 1)).2.2 ++ (c a, 0) :: (pL f c r m (f (a + 1)).2.1).2.2) := by
  show (if _ then _ else _) = _
  rw [if_pos h, if_pos g]
/-- an operand: e reads what stands in brackets, o2 what stands behind ! and - -/
noncomputable def opd (c : Int → Int) (o : Int) (e o2 : Int → rs) (a : Int) : rs :=
  if dg (c a) then (if dg (c (nu c 4 a 0).1) then (false, (nu c 4 a 0).1, []) else (true, (nu c 4 a 0).1, [(48, (nu c 4 a 0).2)]))
  else if nmd (c a) then (true, a + 1, [(c a, 0)])
  else if (c a = 40 ∨ c a = 33 ∨ c a = 45) ∧ o < 6 then
    (if c a = 40 then (if (e (a + 1)).1 = true then (if c (e (a + 1)).2.1 = 41 then (true, (e (a + 1)).2.1 + 1, (e (a + 1)).2.2) else (false, (e (a + 1)).2.1, [])) else e (a + 1))
    else (if (o2 (a + 1)).1 = true then (true, (o2 (a + 1)).2.1, (o2 (a + 1)).2.2 ++ [(if c a = 45 then 95 else 33, 0)]) else o2 (a + 1)))
  else (false, a, [])
noncomputable def pM (r : Int) : Nat := if r = 2 then 1 else 120
noncomputable def pE (c : Int → Int) : Nat → Int → Int → Int → rs
  | 0, _, _, a => (false, a, [])
  | n + 1, r, o, a => if r = 5 then opd c o (pE c n 0 (o + 1)) (pE c n 5 (o + 1)) a
    else if (pE c n (r + 1) o a).1 = true then ((pL (pE c n (r + 1) o) c r (pM r) (pE c n (r + 1) o a).2.1).1, (pL (pE c n (r + 1) o) c r (pM r) (pE c n (r + 1) o a).2.1).2.1, (pE c n (r + 1) o a).2.2 ++ (pL (pE c n (r + 1) o) c r (pM r) (pE c n (r + 1) o a).2.1).2.2)
    else pE c n (r + 1) o a
theorem pE_5 {c : Int → Int} {n : Nat} {o a : Int} : pE c (n + 1) 5 o a = opd c o (pE c n 0 (o + 1)) (pE c n 5 (o + 1)) a := by
  show (if _ then _ else _) = _
  rw [if_pos rfl]
theorem pE_f {c : Int → Int} {n : Nat} {r o a : Int} (hr : ¬ r = 5) (g : (pE c n (r + 1) o a).1 = false) : pE c (n + 1) r o a = pE c n (r + 1) o a := by
  show (if _ then _ else _) = _
  rw [if_neg hr, if_neg (by rw [g]; decide)]
theorem pE_t {c : Int → Int} {n : Nat} {r o a : Int} (hr : ¬ r = 5) (g : (pE c n (r + 1) o a).1 = true) : pE c (n + 1) r o a = ((pL (pE c n (r + 1) o) c r (pM r) (pE c n (r + 1) o a).2.1).1, (pL (pE c n (r + 1) o) c r (pM r) (pE c n (r + 1) o a).2.1).2.1, (pE c n (r + 1) o a).2.2 ++ (pL (pE c n (r + 1) o) c r (pM r) (pE c n (r + 1) o a).2.1).2.2) := by
  show (if _ then _ else _) = _
  rw [if_neg hr, if_pos g]
/-- running codes on a stack; h .. p in e -/
noncomputable def jn (s a b : Int) : Int :=
  if s = 124 then (if a ≠ 0 ∨ b ≠ 0 then 1 else 0) else if s = 38 then (if a ≠ 0 ∧ b ≠ 0 then 1 else 0)
  else if s = 60 then (if a < b then 1 else 0) else if s = 61 then (if a = b then 1 else 0) else if s = 62 then (if b < a then 1 else 0)
  else if s = 43 then zn (a + b) else if s = 45 then zn (a - b) else if s = 42 then zn (a * b)
  else if s = 47 then (if b = 0 then 0 else zdiv a b) else if s = 37 then (if b = 0 then 0 else zrem a b) else 0
abbrev en6 : Type := Int × Int × Int × Int × Int × Int
noncomputable def nv (e : en6) (s : Int) : Int := if s = 104 then e.1 else if s = 100 then e.2.1 else if s = 107 then e.2.2.1 else if s = 109 then e.2.2.2.1 else if s = 99 then e.2.2.2.2.1 else e.2.2.2.2.2
abbrev e6r (e : en6) : Prop := (-2147483648 ≤ e.1 ∧ e.1 < 2147483648) ∧ (-2147483648 ≤ e.2.1 ∧ e.2.1 < 2147483648) ∧ (-2147483648 ≤ e.2.2.1 ∧ e.2.2.1 < 2147483648) ∧ (-2147483648 ≤ e.2.2.2.1 ∧ e.2.2.2.1 < 2147483648) ∧ (-2147483648 ≤ e.2.2.2.2.1 ∧ e.2.2.2.2.1 < 2147483648) ∧ (-2147483648 ≤ e.2.2.2.2.2 ∧ e.2.2.2.2.2 < 2147483648)
theorem nv_r {e : en6} (h : e6r e) (s : Int) : -2147483648 ≤ nv e s ∧ nv e s < 2147483648 := by
  obtain ⟨a, b, c, d, f, g⟩ := h
  unfold nv
  (repeat' split) <;> assumption
theorem jn_r (s a b : Int) : -2147483648 ≤ jn s a b ∧ jn s a b < 2147483648 := by
  unfold jn
  (repeat' split) <;> first | (exact zn_r _) | (exact ⟨Int32.le_toInt _, Int32.toInt_lt _⟩) | decide
/-- a code that may stand -/
abbrev okc (x : Int × Int) : Prop := (x.1 = 48 ∧ 0 ≤ x.2 ∧ x.2 ≤ 9999) ∨ (nmd x.1 ∧ x.2 = 0) ∨ ((x.1 = 33 ∨ x.1 = 95) ∧ x.2 = 0) ∨ (0 ≤ rk x.1 ∧ x.2 = 0)
/-- one code on a stack (top first) -/
noncomputable def x1 (e : en6) (x : Int × Int) (st : List Int) : List Int :=
  if x.1 = 48 then x.2 :: st
  else if nmd x.1 then nv e x.1 :: st
  else if x.1 = 33 then (if st.headD 0 = 0 then 1 else 0) :: st.tail
  else if x.1 = 95 then zn (-st.headD 0) :: st.tail
  else jn x.1 (st.tail.headD 0) (st.headD 0) :: st.tail.tail
noncomputable def ex (e : en6) : List (Int × Int) → List Int → List Int
  | [], st => st
  | x :: l, st => ex e l (x1 e x st)
theorem ex_app {e : en6} : ∀ (l m : List (Int × Int)) (st : List Int), ex e (l ++ m) st = ex e m (ex e l st) := by
  intro l
  induction l with
  | nil => exact fun _ _ => rfl
  | cons x l ih => exact fun m st => ih m (x1 e x st)
/-- how deep a stack a code needs, and what it leaves: codes never take what stood below -/
noncomputable def dp1 (x : Int × Int) (n : Nat) : Option Nat := if x.1 = 48 ∨ nmd x.1 then some (n + 1) else if x.1 = 33 ∨ x.1 = 95 then (if 1 ≤ n then some n else none) else (if 2 ≤ n then some (n - 1) else none)
noncomputable def dpl : List (Int × Int) → Nat → Option Nat
  | [], n => some n
  | x :: l, n => match dp1 x n with
    | none => none
    | some m => dpl l m
theorem dpl_app : ∀ (l m : List (Int × Int)) (n k : Nat), dpl l n = some k → dpl (l ++ m) n = dpl m k := by
  intro l
  induction l with
  | nil =>
    intro m n k h
    have e : n = k := Option.some.inj h
    rw [e]
    rfl
  | cons x l ih =>
    intro m n k h
    cases hd : dp1 x n with
    | none =>
      have h2 : (match dp1 x n with | none => none | some m => dpl l m) = some k := h
      rw [hd] at h2
      cases h2
    | some j =>
      have h2 : (match dp1 x n with | none => none | some m => dpl l m) = some k := h
      rw [hd] at h2
      show (match dp1 x n with | none => none | some m2 => dpl (l ++ m) m2) = _
      rw [hd]
      exact ih m j k h2
/-- what reading gives: it goes on, not beyond the end; as many codes as bytes at most; each may stand; they leave one value more -/
def pG (f a : Int) (x : rs) : Prop := (a ≤ x.2.1 ∧ x.2.1 ≤ f) ∧ (x.1 = true → (a < x.2.1 ∧ (x.2.2.length : Int) ≤ x.2.1 - a ∧ x.2.2 ≠ []) ∧ (∀ y ∈ x.2.2, okc y) ∧ ∀ n, dpl x.2.2 n = some (n + 1))
theorem nu_g {c : Int → Int} {f : Int} (ht : tp c f) : ∀ (n : Nat) (a v : Int), (0 ≤ a ∧ a ≤ f) → (a ≤ (nu c n a v).1 ∧ (nu c n a v).1 ≤ f ∧ (nu c n a v).1 ≤ a + n) := by
  intro n
  induction n with
  | zero =>
    intro a v h
    show a ≤ a ∧ a ≤ f ∧ a ≤ a + ((0 : Nat) : Int)
    omega
  | succ n ih =>
    intro a v h
    by_cases q : dg (c a)
    · rw [nu_1 q]
      have ha : a < f := by
        by_cases e : a < f
        · exact e
        · have := ht.2.2 a (by omega)
          omega
      have := ih (a + 1) (v * 10 + c a - 48) (by omega)
      omega
    · rw [nu_0 q]
      show a ≤ a ∧ a ≤ f ∧ a ≤ a + ((n + 1 : Nat) : Int)
      omega
theorem nu_v {c : Int → Int} {a : Int} (h : dg (c a)) : (0 ≤ (nu c 4 a 0).2 ∧ (nu c 4 a 0).2 ≤ 9999) ∧ a + 1 ≤ (nu c 4 a 0).1 := by
  rw [nu_1 h]
  by_cases h1 : dg (c (a + 1))
  · rw [nu_1 h1]
    by_cases h2 : dg (c (a + 1 + 1))
    · rw [nu_1 h2]
      by_cases h3 : dg (c (a + 1 + 1 + 1))
      · rw [nu_1 h3]
        show (0 ≤ (((0 * 10 + c a - 48) * 10 + c (a + 1) - 48) * 10 + c (a + 1 + 1) - 48) * 10 + c (a + 1 + 1 + 1) - 48 ∧ (((0 * 10 + c a - 48) * 10 + c (a + 1) - 48) * 10 + c (a + 1 + 1) - 48) * 10 + c (a + 1 + 1 + 1) - 48 ≤ 9999) ∧ a + 1 ≤ a + 1 + 1 + 1 + 1
        omega
      · rw [nu_0 h3]
        show (0 ≤ ((0 * 10 + c a - 48) * 10 + c (a + 1) - 48) * 10 + c (a + 1 + 1) - 48 ∧ ((0 * 10 + c a - 48) * 10 + c (a + 1) - 48) * 10 + c (a + 1 + 1) - 48 ≤ 9999) ∧ a + 1 ≤ a + 1 + 1 + 1
        omega
    · rw [nu_0 h2]
      show (0 ≤ (0 * 10 + c a - 48) * 10 + c (a + 1) - 48 ∧ (0 * 10 + c a - 48) * 10 + c (a + 1) - 48 ≤ 9999) ∧ a + 1 ≤ a + 1 + 1
      omega
  · rw [nu_0 h1]
    show (0 ≤ 0 * 10 + c a - 48 ∧ 0 * 10 + c a - 48 ≤ 9999) ∧ a + 1 ≤ a + 1
    omega
theorem tp_lt {c : Int → Int} {f a : Int} (ht : tp c f) (h : ¬ c a = -1) : a < f := by
  by_cases e : a < f
  · exact e
  · exact absurd (ht.2.2 a (by omega)) h
theorem rk_r (s : Int) : -1 ≤ rk s ∧ rk s ≤ 4 := by unfold rk; (repeat' split) <;> decide
theorem rk_n {s : Int} (h : 0 ≤ rk s) : ¬ s = -1 ∧ ¬ s = 48 ∧ ¬ nmd s ∧ ¬ s = 33 ∧ ¬ s = 95 := by
  unfold rk at h
  (repeat' split at h) <;> omega
theorem dp_bin {s : Int} (h : 0 ≤ rk s) (n : Nat) : dp1 (s, 0) (n + 1 + 1) = some (n + 1) := by
  have q := rk_n h
  unfold dp1
  rw [if_neg (show ¬ (s = 48 ∨ nmd s) from fun g => g.elim q.2.1 q.2.2.1), if_neg (show ¬ (s = 33 ∨ s = 95) from fun g => g.elim q.2.2.2.1 q.2.2.2.2), if_pos (by omega)]
  rfl
theorem dpl_1 {x : Int × Int} {n m : Nat} (h : dp1 x n = some m) (l : List (Int × Int)) : dpl (x :: l) n = dpl l m := by
  show (match dp1 x n with | none => none | some m2 => dpl l m2) = _
  rw [h]
/-- the loop behind a chain's first part -/
def pGl (f a : Int) (x : rs) : Prop := (a ≤ x.2.1 ∧ x.2.1 ≤ f) ∧ (x.1 = true → (x.2.2.length : Int) ≤ x.2.1 - a ∧ (∀ y ∈ x.2.2, okc y) ∧ ∀ n, dpl x.2.2 (n + 1) = some (n + 1))
theorem pL_g {c : Int → Int} {f r : Int} (ht : tp c f) (hr : 0 ≤ r) {g : Int → rs} (hg : ∀ a, 0 ≤ a → a ≤ f → pG f a (g a)) : ∀ (m : Nat) (a : Int), (0 ≤ a ∧ a ≤ f) → pGl f a (pL g c r m a) := by
  intro m
  induction m with
  | zero => exact fun a h => ⟨⟨Int.le_refl a, h.2⟩, fun _ => ⟨by show ((0 : Nat) : Int) ≤ a - a; omega, (by intro y hy; cases hy), fun _ => rfl⟩⟩
  | succ m ih =>
    intro a h
    by_cases q : rk (c a) = r
    · have ha := tp_lt ht (rk_n (s := c a) (by omega)).1
      have g1 := hg (a + 1) (by omega) (by omega)
      cases hb : (g (a + 1)).1 with
      | false =>
        rw [pL_f q hb]
        exact ⟨⟨by have := g1.1; omega, g1.1.2⟩, fun t => by rw [hb] at t; cases t⟩
      | true =>
        rw [pL_t q hb]
        have g2 := g1.2 hb
        have g3 := ih (g (a + 1)).2.1 (by have := g1.1; omega)
        refine ⟨⟨?_, g3.1.2⟩, fun t => ?_⟩
        · have := g1.1
          have := g3.1.1
          show a ≤ (pL g c r m (g (a + 1)).2.1).2.1
          omega
        · have g4 := g3.2 t
          refine ⟨?_, ?_, ?_⟩
          · have e1 := g2.1.2.1
            have e2 := g4.1
            show (((g (a + 1)).2.2 ++ (c a, 0) :: (pL g c r m (g (a + 1)).2.1).2.2).length : Int) ≤ (pL g c r m (g (a + 1)).2.1).2.1 - a
            rw [List.length_append, List.length_cons]
            omega
          · intro y hy
            rcases List.mem_append.mp hy with k | k
            · exact g2.2.1 y k
            · rcases List.mem_cons.mp k with k | k
              · subst k
                exact Or.inr (Or.inr (Or.inr ⟨by show 0 ≤ rk (c a); omega, rfl⟩))
              · exact g4.2.1 y k
          · intro n
            show dpl ((g (a + 1)).2.2 ++ (c a, 0) :: (pL g c r m (g (a + 1)).2.1).2.2) (n + 1) = _
            rw [dpl_app _ _ _ _ (g2.2.2 (n + 1)), dpl_1 (dp_bin (by omega) n)]
            exact g4.2.2 n
    · rw [pL_n q]
      exact ⟨⟨Int.le_refl a, h.2⟩, fun _ => ⟨by show ((0 : Nat) : Int) ≤ a - a; omega, (by intro y hy; cases hy), fun _ => rfl⟩⟩
theorem opd_g {c : Int → Int} {f o : Int} (ht : tp c f) {e o2 : Int → rs} (he : o < 6 → ∀ a, 0 ≤ a → a ≤ f → pG f a (e a)) (ho : o < 6 → ∀ a, 0 ≤ a → a ≤ f → pG f a (o2 a)) {a : Int} (h : 0 ≤ a ∧ a ≤ f) : pG f a (opd c o e o2 a) := by
  unfold opd
  by_cases q1 : dg (c a)
  · rw [if_pos q1]
    have n1 := nu_g ht 4 a 0 h
    have n2 := nu_v q1
    by_cases q2 : dg (c (nu c 4 a 0).1)
    · rw [if_pos q2]
      exact ⟨⟨n1.1, n1.2.1⟩, fun t => by cases t⟩
    · rw [if_neg q2]
      refine ⟨⟨n1.1, n1.2.1⟩, fun _ => ⟨⟨by show a < (nu c 4 a 0).1; omega, by show ((1 : Nat) : Int) ≤ (nu c 4 a 0).1 - a; omega, by intro t; cases t⟩, ?_, fun n => rfl⟩⟩
      intro y hy
      rcases List.mem_cons.mp hy with k | k
      · subst k
        exact Or.inl ⟨rfl, n2.1⟩
      · cases k
  · rw [if_neg q1]
    by_cases q2 : nmd (c a)
    · rw [if_pos q2]
      have ha := tp_lt ht (show ¬ c a = -1 by omega)
      refine ⟨⟨by show a ≤ a + 1; omega, by show a + 1 ≤ f; omega⟩, fun _ => ⟨⟨by show a < a + 1; omega, by show ((1 : Nat) : Int) ≤ a + 1 - a; omega, by intro t; cases t⟩, ?_, fun n => ?_⟩⟩
      · intro y hy
        rcases List.mem_cons.mp hy with k | k
        · subst k
          exact Or.inr (Or.inl ⟨q2, rfl⟩)
        · cases k
      · refine dpl_1 (m := n + 1) ?_ []
        unfold dp1
        rw [if_pos (Or.inr q2)]
    · rw [if_neg q2]
      by_cases q3 : (c a = 40 ∨ c a = 33 ∨ c a = 45) ∧ o < 6
      · rw [if_pos q3]
        have ha := tp_lt ht (show ¬ c a = -1 by omega)
        by_cases q4 : c a = 40
        · rw [if_pos q4]
          have g := he q3.2 (a + 1) (by omega) (by omega)
          cases hb : (e (a + 1)).1 with
          | false =>
            rw [if_neg (by decide)]
            exact ⟨⟨by have := g.1; omega, g.1.2⟩, fun t => by rw [hb] at t; cases t⟩
          | true =>
            rw [if_pos rfl]
            have g2 := g.2 hb
            by_cases q5 : c (e (a + 1)).2.1 = 41
            · rw [if_pos q5]
              have hc := tp_lt ht (show ¬ c (e (a + 1)).2.1 = -1 by omega)
              refine ⟨⟨?_, ?_⟩, fun _ => ⟨⟨?_, ?_, g2.1.2.2⟩, g2.2.1, g2.2.2⟩⟩
              · have := g.1; show a ≤ (e (a + 1)).2.1 + 1; omega
              · show (e (a + 1)).2.1 + 1 ≤ f; omega
              · have := g.1; show a < (e (a + 1)).2.1 + 1; omega
              · have := g2.1.2.1; show ((e (a + 1)).2.2.length : Int) ≤ (e (a + 1)).2.1 + 1 - a; omega
            · rw [if_neg q5]
              exact ⟨⟨by have := g.1; show a ≤ (e (a + 1)).2.1; omega, g.1.2⟩, fun t => by cases t⟩
        · rw [if_neg q4]
          have g := ho q3.2 (a + 1) (by omega) (by omega)
          cases hb : (o2 (a + 1)).1 with
          | false =>
            rw [if_neg (by decide)]
            exact ⟨⟨by have := g.1; omega, g.1.2⟩, fun t => by rw [hb] at t; cases t⟩
          | true =>
            rw [if_pos rfl]
            have g2 := g.2 hb
            have hs : ∀ n, dp1 (if c a = 45 then 95 else 33, 0) (n + 1) = some (n + 1) := by
              intro n
              by_cases q5 : c a = 45
              · rw [if_pos q5]; rfl
              · rw [if_neg q5]; rfl
            refine ⟨⟨?_, g.1.2⟩, fun _ => ⟨⟨?_, ?_, ?_⟩, ?_, fun n => ?_⟩⟩
            · have := g.1; show a ≤ (o2 (a + 1)).2.1; omega
            · have := g.1; show a < (o2 (a + 1)).2.1; omega
            · have := g2.1.2.1
              show (((o2 (a + 1)).2.2 ++ [(if c a = 45 then 95 else 33, 0)]).length : Int) ≤ (o2 (a + 1)).2.1 - a
              rw [List.length_append, List.length_singleton]
              omega
            · exact List.append_ne_nil_of_right_ne_nil _ (by intro t; cases t)
            · intro y hy
              rcases List.mem_append.mp hy with k | k
              · exact g2.2.1 y k
              · rcases List.mem_cons.mp k with k | k
                · subst k
                  refine Or.inr (Or.inr (Or.inl ⟨?_, rfl⟩))
                  show (if c a = 45 then (95 : Int) else 33) = 33 ∨ (if c a = 45 then (95 : Int) else 33) = 95
                  split
                  · exact Or.inr rfl
                  · exact Or.inl rfl
                · cases k
            · show dpl ((o2 (a + 1)).2.2 ++ [(if c a = 45 then 95 else 33, 0)]) n = some (n + 1)
              rw [dpl_app _ _ _ _ (g2.2.2 n), dpl_1 (hs n)]
              rfl
      · rw [if_neg q3]
        exact ⟨⟨Int.le_refl a, h.2⟩, fun t => by cases t⟩
/-- fuel enough -/
abbrev pK (n : Nat) (r o : Int) : Prop := (0 ≤ r ∧ r ≤ 5) ∧ (0 ≤ o ∧ o ≤ 6) ∧ 7 * (6 - o) + (6 - r) ≤ n
theorem pE_g {c : Int → Int} {f : Int} (ht : tp c f) : ∀ (n : Nat) (r o a : Int), pK n r o → (0 ≤ a ∧ a ≤ f) → pG f a (pE c n r o a) := by
  intro n
  induction n with
  | zero =>
    intro r o a hk h
    exfalso
    omega
  | succ n ih =>
    intro r o a hk h
    by_cases q : r = 5
    · subst q
      rw [pE_5]
      exact opd_g ht (fun h6 a a1 a2 => ih 0 (o + 1) a (by omega) ⟨a1, a2⟩) (fun h6 a a1 a2 => ih 5 (o + 1) a (by omega) ⟨a1, a2⟩) h
    · have g := ih (r + 1) o a (by omega) h
      cases hb : (pE c n (r + 1) o a).1 with
      | false =>
        rw [pE_f q hb]
        exact g
      | true =>
        rw [pE_t q hb]
        have g2 := g.2 hb
        have g3 := pL_g (r := r) ht (by omega) (g := pE c n (r + 1) o) (fun a a1 a2 => ih (r + 1) o a (by omega) ⟨a1, a2⟩) (pM r) (pE c n (r + 1) o a).2.1 (by have := g.1; omega)
        refine ⟨⟨?_, g3.1.2⟩, fun t => ?_⟩
        · have := g.1
          have := g3.1
          show a ≤ (pL (pE c n (r + 1) o) c r (pM r) (pE c n (r + 1) o a).2.1).2.1
          omega
        · have g4 := g3.2 t
          refine ⟨⟨?_, ?_, ?_⟩, ?_, fun k => ?_⟩
          · have := g2.1
            have := g3.1
            show a < (pL (pE c n (r + 1) o) c r (pM r) (pE c n (r + 1) o a).2.1).2.1
            omega
          · have e1 := g2.1.2.1
            have e2 := g4.1
            show (((pE c n (r + 1) o a).2.2 ++ (pL (pE c n (r + 1) o) c r (pM r) (pE c n (r + 1) o a).2.1).2.2).length : Int) ≤ (pL (pE c n (r + 1) o) c r (pM r) (pE c n (r + 1) o a).2.1).2.1 - a
            rw [List.length_append]
            omega
          · exact List.append_ne_nil_of_left_ne_nil g2.1.2.2 _
          · intro y hy
            rcases List.mem_append.mp hy with k | k
            · exact g2.2.1 y k
            · exact g4.2.1 y k
          · show dpl ((pE c n (r + 1) o a).2.2 ++ (pL (pE c n (r + 1) o) c r (pM r) (pE c n (r + 1) o a).2.1).2.2) k = some (k + 1)
            rw [dpl_app _ _ _ _ (g2.2.2 k)]
            exact g4.2.2 k
