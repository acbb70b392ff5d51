noncomputable def fset (f : Int → Int) (p v : Int) : Int → Int := fun y => if y = p then v else f y
/-- a round as far as it went: shares, minutes listened, the place, the minute, what was found, the mark -/
abbrev tR : Type := (Int → Int) × (Int → Int) × Int × Int × Int × Int
noncomputable abbrev tsh (s : tR) : Int → Int := s.1
noncomputable abbrev tli (s : tR) : Int → Int := s.2.1
noncomputable abbrev tat (s : tR) : Int := s.2.2.1
noncomputable abbrev tmi (s : tR) : Int := s.2.2.2.1
noncomputable abbrev tfo (s : tR) : Int := s.2.2.2.2.1
noncomputable abbrev tmk (s : tR) : Int := s.2.2.2.2.2
noncomputable def tB (T : zX) (N : Int → Int → Int) (p w : Int) : Nat → Int → Int → Int → Int → Int → Int
  | 0, _, _, _, _, b => b
  | c + 1, s, l, m, f, b => tB T N p w c (lf T N s p l m) (l + 1) (m + 1) (f + (s - lf T N s p l m)) (if b < 0 ∧ w ≤ f + (s - lf T N s p l m) then m + 1 else b)
noncomputable def tst (N : Int → Int → Int) (s : tR) (p : Int) : Int := tmi s + sWay N (tat s) p
noncomputable def tN (T : zX) (N : Int → Int → Int) (w : Int) (s : tR) (p q : Int) : tR := (fset (tsh s) p (lB T N p q.toNat (tsh s p) (tli s p) (tst N s p)), fset (tli s) p (tli s p + q), p, tst N s p + q, tfo s + (tsh s p - lB T N p q.toNat (tsh s p) (tli s p) (tst N s p)), tB T N p w q.toNat (tsh s p) (tli s p) (tst N s p) (tfo s) (tmk s))
noncomputable def t0 (N : Int → Int → Int) (n w : Int) : tR := (fun p => if 0 ≤ p ∧ p < n then sShare N n p else 0, fun _ => 0, -1, 0, 0, if w ≤ 0 then 0 else -2)
noncomputable def tS (T : zX) (N : Int → Int → Int) (n : Int) (b : Int → Int) (w : Int) : Nat → tR
  | 0 => t0 N n w
  | k + 1 => tN T N w (tS T N n b w k) (b (2 * k)) (b (2 * k + 1))
abbrev tC (N : Int → Int → Int) (n : Int) (s : tR) (p q : Int) : Prop := (0 ≤ p ∧ p < n) ∧ (1 ≤ q ∧ q ≤ 99) ∧ tst N s p + q ≤ 999
abbrev tOk (T : zX) (N : Int → Int → Int) (n : Int) (b : Int → Int) (w z : Int) (k : Nat) : Prop := 2 * (k : Int) + 1 < z ∧ tC N n (tS T N n b w k) (b (2 * k)) (b (2 * k + 1))
def tEnd (T : zX) (N : Int → Int → Int) (n : Int) (b : Int → Int) (w z : Int) (K : Nat) : Prop := (∀ k, k < K → tOk T N n b w z k) ∧ ¬ tOk T N n b w z K
theorem tEnd_u {T : zX} {N : Int → Int → Int} {n : Int} {b : Int → Int} {w z : Int} {K L : Nat} (h : tEnd T N n b w z K) (g : tEnd T N n b w z L) : K = L := by
  rcases Nat.lt_trichotomy K L with e | e | e
  · exact absurd (g.1 K e) h.2
  · exact e
  · exact absurd (h.1 L e) g.2
theorem fset_r {f : Int → Int} {p v x lo hi : Int} (hv : lo ≤ v ∧ v ≤ hi) (hf : lo ≤ f x ∧ f x ≤ hi) : lo ≤ fset f p v x ∧ fset f p v x ≤ hi := by unfold fset; split <;> assumption
/-- what a round's numbers are -/
def tI (n : Int) (s : tR) (k : Int) : Prop := (∀ p, 0 ≤ tsh s p ∧ tsh s p ≤ 1000000) ∧ (∀ p, 0 ≤ tli s p ∧ tli s p ≤ 99 * k) ∧ (-1 ≤ tat s ∧ tat s < n) ∧ (0 ≤ tmi s ∧ tmi s ≤ 999) ∧ (0 ≤ tfo s ∧ tfo s ≤ 1000000 * k) ∧ (-2 ≤ tmk s ∧ tmk s ≤ 999)
theorem tB_r {T : zX} {N : Int → Int → Int} {p w : Int} : ∀ (c : Nat) (s l m f b : Int), 0 ≤ m → (-2 ≤ b ∧ b ≤ m) → -2 ≤ tB T N p w c s l m f b ∧ tB T N p w c s l m f b ≤ m + c := by
  intro c
  induction c with
  | zero => intro s l m f b hm hb; show -2 ≤ b ∧ b ≤ _; omega
  | succ c ih =>
    intro s l m f b hm hb
    have i := ih (lf T N s p l m) (l + 1) (m + 1) (f + (s - lf T N s p l m)) (if b < 0 ∧ w ≤ f + (s - lf T N s p l m) then m + 1 else b) (by omega) (by split <;> omega)
    show -2 ≤ tB T N p w c _ _ _ _ _ ∧ tB T N p w c _ _ _ _ _ ≤ _
    omega
theorem tI_0 {N : Int → Int → Int} {n w : Int} (h : zNr n N) : tI n (t0 N n w) 0 := by
  have q := zNn h
  refine ⟨fun p => ?_, fun p => ⟨Int.le_refl 0, Int.le_refl 0⟩, ⟨Int.le_refl _, by show (-1 : Int) < n; omega⟩, ⟨Int.le_refl 0, by show (0 : Int) ≤ 999; omega⟩, ⟨Int.le_refl 0, Int.le_refl 0⟩, ?_⟩
  · show 0 ≤ (if 0 ≤ p ∧ p < n then sShare N n p else 0) ∧ (if 0 ≤ p ∧ p < n then sShare N n p else 0) ≤ 1000000
    split
    · exact sShare_r h (by assumption)
    · omega
  · show -2 ≤ (if w ≤ 0 then (0 : Int) else -2) ∧ (if w ≤ 0 then (0 : Int) else -2) ≤ 999
    split <;> omega
/-- the mark lies no later than the minute -/
def tMk (s : tR) : Prop := tmk s ≤ tmi s
theorem tI_s {T : zX} {N : Int → Int → Int} {n w : Int} {s : tR} {k p q : Int} (h : zNr n N) (hi : tI n s k) (hm : tMk s) (hc : tC N n s p q) : tI n (tN T N w s p q) (k + 1) ∧ tMk (tN T N w s p q) := by
  obtain ⟨i1, i2, i3, i4, i5, i6⟩ := hi
  obtain ⟨c1, c2, c3⟩ := hc
  have w1 := sWay_r h (f := tat s) (p := p)
  have st : 0 ≤ tst N s p ∧ tmi s ≤ tst N s p := by unfold tst; omega
  have l1 := lB_r (T := T) (N := N) (p := p) q.toNat (tsh s p) (tli s p) (tst N s p) (i1 p).1
  have b1 := tB_r (T := T) (N := N) (p := p) (w := w) q.toNat (tsh s p) (tli s p) (tst N s p) (tfo s) (tmk s) st.1 (by unfold tMk at hm; omega)
  have s1 := i1 p
  refine ⟨⟨fun x => fset_r (by omega) (i1 x), fun x => ?_, ?_, ?_, ?_, ?_⟩, ?_⟩
  · have a := i2 x; have a2 := i2 p
    exact fset_r (by omega) (by omega)
  · show -1 ≤ p ∧ p < n; omega
  · show 0 ≤ tst N s p + q ∧ tst N s p + q ≤ 999; omega
  · show 0 ≤ tfo s + (tsh s p - lB T N p q.toNat (tsh s p) (tli s p) (tst N s p)) ∧ tfo s + (tsh s p - lB T N p q.toNat (tsh s p) (tli s p) (tst N s p)) ≤ 1000000 * (k + 1); omega
  · show -2 ≤ tB T N p w q.toNat (tsh s p) (tli s p) (tst N s p) (tfo s) (tmk s) ∧ tB T N p w q.toNat (tsh s p) (tli s p) (tst N s p) (tfo s) (tmk s) ≤ 999; omega
  · show tB T N p w q.toNat (tsh s p) (tli s p) (tst N s p) (tfo s) (tmk s) ≤ tst N s p + q; omega
theorem tS_r {T : zX} {N : Int → Int → Int} {n : Int} {b : Int → Int} {w z : Int} (h : zNr n N) : ∀ k : Nat, (∀ i, i < k → tOk T N n b w z i) → tI n (tS T N n b w k) k ∧ tMk (tS T N n b w k) := by
  intro k
  induction k with
  | zero => intro _; refine ⟨tI_0 h, ?_⟩; show (if w ≤ 0 then (0 : Int) else -2) ≤ 0; split <;> omega
  | succ k ih =>
    intro hk
    have i := ih (fun i hi => hk i (by omega))
    exact tI_s h i.1 i.2 (hk k (by omega)).2
