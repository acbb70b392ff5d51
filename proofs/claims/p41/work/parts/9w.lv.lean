theorem kT_68 : ∀ x j, kT x j = true → (kL [68] []) x j = true := by
  intro x j h
  unfold kL
  simp only [List.any_cons, List.any_nil, Bool.or_false]
  by_cases e7 : x = 68
  · subst e7
    exact Bool.noConfusion (show false = true from h)
  · rw [beq_f e7]
    rfl
theorem lawG {X : Nat × (Nat → Int32)} {A : zA} {ls : List lnT} (hl : lnl A 0 0 0 0 ls) (h0 : A 64 0 = (ls.length : Int)) (h61 : (ls.length : Int) ≤ 61) (h120 : nst ls ≤ 120) (hg : ∀ x ∈ ls, gdl x) : LawG X A (lawT ls) := by
  intro d J M R hR j4 j2 j5 r0 r1 r2 r3 r4 r5
  have hl2 := lnl_keep ls 0 0 hl (fun j hj => j2 j (by omega)) (fun j hj => j5 j (by omega))
  show zW _ _ _ _ [some (.ref 50), some (zi 0), none, none] _ _ _ _ _
  refine z_pushJ gp_181_0 ?_
  refine z_istore (ls1 := [some (.ref 50), some (zi 0), some (zi 0), none]) rfl rfl ?_
  refine z_pushJ gp_181_2 ?_
  refine z_iload1 rfl ?_
  refine z_imul (e := 0) rfl rfl ?_
  refine z_istore (ls1 := [some (.ref 50), some (zi 0), some (zi 0), some (zi 0)]) rfl rfl ?_
  show zW _ _ _ _ [some (.ref 50), some (zi 0), some (zi 0), some (zi 0)] [] _ _ _ _
  refine wgl (d := d) hR (B := J) (e := (J 67 0, J 67 1, J 67 2, J 67 3, J 67 4, J 67 5)) ⟨rfl, rfl, rfl, rfl, rfl, rfl⟩ ⟨r0, r1, r2, r3, r4, r5⟩ (n := (ls.length : Int)) (j4.trans h0) h61 ls 0 0 J zK_r hl2 hg (by omega) (by omega) (fun J2 k2 => ⟨?_, zK_m k2 kT_68, rfl, rfl⟩)
  show some (zi (evl _ ls)) = some (zi (zn (evl _ ls)))
  rw [zi_zn]
