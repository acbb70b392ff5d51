theorem x1_48 {e : en6} {v : Int} {st : List Int} : x1 e (48, v) st = v :: st := rfl
theorem x1_n {e : en6} {s : Int} {st : List Int} (h : nmd s) : x1 e (s, 0) st = nv e s :: st := by
  unfold x1
  rw [if_neg (show ¬ s = 48 by omega), if_pos (show nmd s from h)]
theorem x1_33 {e : en6} {a : Int} {t : List Int} : x1 e (33, 0) (a :: t) = (if a = 0 then 1 else 0) :: t := rfl
theorem x1_95 {e : en6} {a : Int} {t : List Int} : x1 e (95, 0) (a :: t) = zn (-a) :: t := rfl
theorem x1_b {e : en6} {s a b : Int} {t : List Int} (h : 0 ≤ rk s) : x1 e (s, 0) (b :: a :: t) = jn s a b :: t := by
  have q := rk_n h
  unfold x1
  rw [if_neg (show ¬ s = 48 from q.2.1), if_neg (show ¬ nmd s from q.2.2.1), if_neg (show ¬ s = 33 from q.2.2.2.1), if_neg (show ¬ s = 95 from q.2.2.2.2)]
  rfl
/-- what a stack is worth in memory: J before, t the stack -/
abbrev sok (J : zA) (t : List Int) : Prop := J 1 10 = (t.length : Int) ∧ stk J 7 t ∧ stR t
theorem sok_push {J : zA} {t : List Int} {v L : Int} (ht : stk J 7 t) (hr : stR t) (hL : (t.length : Int) = L) (hv : -2147483648 ≤ v ∧ v < 2147483648) : sok (zU (zU J 7 L v) 1 10 (L + 1)) (v :: t) := by
  subst hL
  refine ⟨?_, ⟨(zU_n (by decide)).trans zU_e, stk_keep t ht (fun j j0 hj => (zU_n (by decide)).trans (zU_x (by omega)))⟩, fun w hw => ?_⟩
  · rw [zU_e, List.length_cons]
    omega
  · rcases List.mem_cons.mp hw with k | k
    · rw [k]; exact hv
    · exact hr w k
theorem stk_10 {J : zA} {t : List Int} {n : Int} (h : stk J 7 t) : stk (zU J 1 10 n) 7 t := stk_keep t h (fun _ _ _ => zU_n (by decide))
/-- codes that are run -/
abbrev go1 (x : Int × Int) (n m : Nat) : Prop := okc x ∧ dp1 x n = some m
theorem dp_1 {x : Int × Int} {n m : Nat} (hx : x.1 = 48 ∨ nmd x.1) (h : dp1 x n = some m) : m = n + 1 := by
  unfold dp1 at h
  rw [if_pos hx] at h
  exact (Option.some.inj h).symm
theorem dp_2 {s : Int} {n m : Nat} (hx : s = 33 ∨ s = 95) (h : dp1 (s, 0) n = some m) : 1 ≤ n ∧ m = n := by
  unfold dp1 at h
  rw [if_neg (show ¬ (s = 48 ∨ nmd s) by omega), if_pos (show s = 33 ∨ s = 95 from hx)] at h
  by_cases q : 1 ≤ n
  · rw [if_pos q] at h
    exact ⟨q, (Option.some.inj h).symm⟩
  · rw [if_neg q] at h
    cases h
theorem dp_3 {s : Int} {n m : Nat} (hx : 0 ≤ rk s) (h : dp1 (s, 0) n = some m) : 2 ≤ n ∧ m + 1 = n := by
  have r := rk_n hx
  unfold dp1 at h
  rw [if_neg (show ¬ (s = 48 ∨ nmd s) from fun g => g.elim r.2.1 r.2.2.1), if_neg (show ¬ (s = 33 ∨ s = 95) from fun g => g.elim r.2.2.2.1 r.2.2.2.2)] at h
  by_cases q : 2 ≤ n
  · rw [if_pos q] at h
    have := Option.some.inj h
    exact ⟨q, by omega⟩
  · rw [if_neg q] at h
    cases h
theorem run_48 {X : Nat × (Nat → Int32)} {d : Nat} {J M : zA} {R : zR} {e : en6} {t : List Int} {v : Int} (hR : zRok R) (hf : J 1 11 = e.1 ∧ J 1 12 = e.2.1 ∧ J 1 13 = e.2.2.1 ∧ J 1 14 = e.2.2.2.1 ∧ J 1 15 = e.2.2.2.2.1 ∧ J 1 16 = e.2.2.2.2.2) (he : e6r e) (hrt : stR t) (ht : stk J 7 t) (hn : J 1 10 = (t.length : Int)) (hl : (t.length : Int) ≤ 120) (hv : 0 ≤ v ∧ v ≤ 9999) : zW X (d + 2) 40 0 (gEn 40 [.ref 1, zi 48, zi v]) [] J M R (fun r J2 M2 R2 => r = none ∧ zK (kL [7] [(1, 10)]) J J2 ∧ sok J2 (v :: t) ∧ M2 = M ∧ R2 = R) := by
  show zW _ _ _ _ [some (.ref 1), some (zi 48), some (zi v), none, none] _ _ _ _ _
  refine z_iload1 gi_40_0 ?_
  refine z_swI (tg := 84) gi_40_1 (by decide) (T := [((33 : Int), 158), ((48 : Int), 84), ((95 : Int), 177), ((99 : Int), 136), ((100 : Int), 103), ((104 : Int), 92), ((107 : Int), 114), ((109 : Int), 125), ((112 : Int), 147)]) rfl (by decide) ?_
  refine z_aload0 rfl ?_
  refine z_iload2 rfl ?_
  refine z_callVx (As := [_]) rfl rfl gk_1 (Nat.le_of_ble_eq_true rfl) (Nat.le_of_ble_eq_true rfl) (push_k (n := (t.length : Int)) (v := v) hR (by exact hn) (by omega)) ?_
  show zW _ _ _ _ _ _ _ _ _ _
  refine z_goto rfl ?_
  refine z_vret gi_40_211 gr_40 ?_
  refine ⟨rfl, (zK_x (a := 1) (x := 10) (v := (t.length : Int) + 1) (zK_x (a := 7) (x := (t.length : Int)) (v := v) zK_r rfl) rfl), ?_, rfl, rfl⟩
  exact sok_push (t := t) (v := v) (L := (t.length : Int)) ht hrt (by omega) (by omega)
theorem run_104 {X : Nat × (Nat → Int32)} {d : Nat} {J M : zA} {R : zR} {e : en6} {t : List Int}  (hR : zRok R) (hf : J 1 11 = e.1 ∧ J 1 12 = e.2.1 ∧ J 1 13 = e.2.2.1 ∧ J 1 14 = e.2.2.2.1 ∧ J 1 15 = e.2.2.2.2.1 ∧ J 1 16 = e.2.2.2.2.2) (he : e6r e) (hrt : stR t) (ht : stk J 7 t) (hn : J 1 10 = (t.length : Int)) (hl : (t.length : Int) ≤ 120) : zW X (d + 2) 40 0 (gEn 40 [.ref 1, zi 104, zi 0]) [] J M R (fun r J2 M2 R2 => r = none ∧ zK (kL [7] [(1, 10)]) J J2 ∧ sok J2 (nv e 104 :: t) ∧ M2 = M ∧ R2 = R) := by
  show zW _ _ _ _ [some (.ref 1), some (zi 104), some (zi 0), none, none] _ _ _ _ _
  refine z_iload1 gi_40_0 ?_
  refine z_swI (tg := 92) gi_40_1 (by decide) (T := [((33 : Int), 158), ((48 : Int), 84), ((95 : Int), 177), ((99 : Int), 136), ((100 : Int), 103), ((104 : Int), 92), ((107 : Int), 114), ((109 : Int), 125), ((112 : Int), 147)]) rfl (by decide) ?_
  refine z_aload0 rfl ?_
  refine z_aload0 rfl ?_
  refine z_getI (v := e.1) rfl gk_1 (hf.1) ?_
  refine z_callVx (As := [_]) rfl rfl gk_1 (Nat.le_of_ble_eq_true rfl) (Nat.le_of_ble_eq_true rfl) (push_k (n := (t.length : Int)) (v := e.1) hR (by exact hn) (by omega)) ?_
  show zW _ _ _ _ _ _ _ _ _ _
  refine z_goto rfl ?_
  refine z_vret gi_40_211 gr_40 ?_
  refine ⟨rfl, (zK_x (a := 1) (x := 10) (v := (t.length : Int) + 1) (zK_x (a := 7) (x := (t.length : Int)) (v := e.1) zK_r rfl) rfl), ?_, rfl, rfl⟩
  exact sok_push (t := t) (v := e.1) (L := (t.length : Int)) ht hrt (by omega) (nv_r he 104)
theorem run_100 {X : Nat × (Nat → Int32)} {d : Nat} {J M : zA} {R : zR} {e : en6} {t : List Int}  (hR : zRok R) (hf : J 1 11 = e.1 ∧ J 1 12 = e.2.1 ∧ J 1 13 = e.2.2.1 ∧ J 1 14 = e.2.2.2.1 ∧ J 1 15 = e.2.2.2.2.1 ∧ J 1 16 = e.2.2.2.2.2) (he : e6r e) (hrt : stR t) (ht : stk J 7 t) (hn : J 1 10 = (t.length : Int)) (hl : (t.length : Int) ≤ 120) : zW X (d + 2) 40 0 (gEn 40 [.ref 1, zi 100, zi 0]) [] J M R (fun r J2 M2 R2 => r = none ∧ zK (kL [7] [(1, 10)]) J J2 ∧ sok J2 (nv e 100 :: t) ∧ M2 = M ∧ R2 = R) := by
  show zW _ _ _ _ [some (.ref 1), some (zi 100), some (zi 0), none, none] _ _ _ _ _
  refine z_iload1 gi_40_0 ?_
  refine z_swI (tg := 103) gi_40_1 (by decide) (T := [((33 : Int), 158), ((48 : Int), 84), ((95 : Int), 177), ((99 : Int), 136), ((100 : Int), 103), ((104 : Int), 92), ((107 : Int), 114), ((109 : Int), 125), ((112 : Int), 147)]) rfl (by decide) ?_
  refine z_aload0 rfl ?_
  refine z_aload0 rfl ?_
  refine z_getI (v := e.2.1) rfl gk_1 (hf.2.1) ?_
  refine z_callVx (As := [_]) rfl rfl gk_1 (Nat.le_of_ble_eq_true rfl) (Nat.le_of_ble_eq_true rfl) (push_k (n := (t.length : Int)) (v := e.2.1) hR (by exact hn) (by omega)) ?_
  show zW _ _ _ _ _ _ _ _ _ _
  refine z_goto rfl ?_
  refine z_vret gi_40_211 gr_40 ?_
  refine ⟨rfl, (zK_x (a := 1) (x := 10) (v := (t.length : Int) + 1) (zK_x (a := 7) (x := (t.length : Int)) (v := e.2.1) zK_r rfl) rfl), ?_, rfl, rfl⟩
  exact sok_push (t := t) (v := e.2.1) (L := (t.length : Int)) ht hrt (by omega) (nv_r he 100)
theorem run_107 {X : Nat × (Nat → Int32)} {d : Nat} {J M : zA} {R : zR} {e : en6} {t : List Int}  (hR : zRok R) (hf : J 1 11 = e.1 ∧ J 1 12 = e.2.1 ∧ J 1 13 = e.2.2.1 ∧ J 1 14 = e.2.2.2.1 ∧ J 1 15 = e.2.2.2.2.1 ∧ J 1 16 = e.2.2.2.2.2) (he : e6r e) (hrt : stR t) (ht : stk J 7 t) (hn : J 1 10 = (t.length : Int)) (hl : (t.length : Int) ≤ 120) : zW X (d + 2) 40 0 (gEn 40 [.ref 1, zi 107, zi 0]) [] J M R (fun r J2 M2 R2 => r = none ∧ zK (kL [7] [(1, 10)]) J J2 ∧ sok J2 (nv e 107 :: t) ∧ M2 = M ∧ R2 = R) := by
  show zW _ _ _ _ [some (.ref 1), some (zi 107), some (zi 0), none, none] _ _ _ _ _
  refine z_iload1 gi_40_0 ?_
  refine z_swI (tg := 114) gi_40_1 (by decide) (T := [((33 : Int), 158), ((48 : Int), 84), ((95 : Int), 177), ((99 : Int), 136), ((100 : Int), 103), ((104 : Int), 92), ((107 : Int), 114), ((109 : Int), 125), ((112 : Int), 147)]) rfl (by decide) ?_
  refine z_aload0 rfl ?_
  refine z_aload0 rfl ?_
  refine z_getI (v := e.2.2.1) rfl gk_1 (hf.2.2.1) ?_
  refine z_callVx (As := [_]) rfl rfl gk_1 (Nat.le_of_ble_eq_true rfl) (Nat.le_of_ble_eq_true rfl) (push_k (n := (t.length : Int)) (v := e.2.2.1) hR (by exact hn) (by omega)) ?_
  show zW _ _ _ _ _ _ _ _ _ _
  refine z_goto rfl ?_
  refine z_vret gi_40_211 gr_40 ?_
  refine ⟨rfl, (zK_x (a := 1) (x := 10) (v := (t.length : Int) + 1) (zK_x (a := 7) (x := (t.length : Int)) (v := e.2.2.1) zK_r rfl) rfl), ?_, rfl, rfl⟩
  exact sok_push (t := t) (v := e.2.2.1) (L := (t.length : Int)) ht hrt (by omega) (nv_r he 107)
theorem run_109 {X : Nat × (Nat → Int32)} {d : Nat} {J M : zA} {R : zR} {e : en6} {t : List Int}  (hR : zRok R) (hf : J 1 11 = e.1 ∧ J 1 12 = e.2.1 ∧ J 1 13 = e.2.2.1 ∧ J 1 14 = e.2.2.2.1 ∧ J 1 15 = e.2.2.2.2.1 ∧ J 1 16 = e.2.2.2.2.2) (he : e6r e) (hrt : stR t) (ht : stk J 7 t) (hn : J 1 10 = (t.length : Int)) (hl : (t.length : Int) ≤ 120) : zW X (d + 2) 40 0 (gEn 40 [.ref 1, zi 109, zi 0]) [] J M R (fun r J2 M2 R2 => r = none ∧ zK (kL [7] [(1, 10)]) J J2 ∧ sok J2 (nv e 109 :: t) ∧ M2 = M ∧ R2 = R) := by
  show zW _ _ _ _ [some (.ref 1), some (zi 109), some (zi 0), none, none] _ _ _ _ _
  refine z_iload1 gi_40_0 ?_
  refine z_swI (tg := 125) gi_40_1 (by decide) (T := [((33 : Int), 158), ((48 : Int), 84), ((95 : Int), 177), ((99 : Int), 136), ((100 : Int), 103), ((104 : Int), 92), ((107 : Int), 114), ((109 : Int), 125), ((112 : Int), 147)]) rfl (by decide) ?_
  refine z_aload0 rfl ?_
  refine z_aload0 rfl ?_
  refine z_getI (v := e.2.2.2.1) rfl gk_1 (hf.2.2.2.1) ?_
  refine z_callVx (As := [_]) rfl rfl gk_1 (Nat.le_of_ble_eq_true rfl) (Nat.le_of_ble_eq_true rfl) (push_k (n := (t.length : Int)) (v := e.2.2.2.1) hR (by exact hn) (by omega)) ?_
  show zW _ _ _ _ _ _ _ _ _ _
  refine z_goto rfl ?_
  refine z_vret gi_40_211 gr_40 ?_
  refine ⟨rfl, (zK_x (a := 1) (x := 10) (v := (t.length : Int) + 1) (zK_x (a := 7) (x := (t.length : Int)) (v := e.2.2.2.1) zK_r rfl) rfl), ?_, rfl, rfl⟩
  exact sok_push (t := t) (v := e.2.2.2.1) (L := (t.length : Int)) ht hrt (by omega) (nv_r he 109)
theorem run_99 {X : Nat × (Nat → Int32)} {d : Nat} {J M : zA} {R : zR} {e : en6} {t : List Int}  (hR : zRok R) (hf : J 1 11 = e.1 ∧ J 1 12 = e.2.1 ∧ J 1 13 = e.2.2.1 ∧ J 1 14 = e.2.2.2.1 ∧ J 1 15 = e.2.2.2.2.1 ∧ J 1 16 = e.2.2.2.2.2) (he : e6r e) (hrt : stR t) (ht : stk J 7 t) (hn : J 1 10 = (t.length : Int)) (hl : (t.length : Int) ≤ 120) : zW X (d + 2) 40 0 (gEn 40 [.ref 1, zi 99, zi 0]) [] J M R (fun r J2 M2 R2 => r = none ∧ zK (kL [7] [(1, 10)]) J J2 ∧ sok J2 (nv e 99 :: t) ∧ M2 = M ∧ R2 = R) := by
  show zW _ _ _ _ [some (.ref 1), some (zi 99), some (zi 0), none, none] _ _ _ _ _
  refine z_iload1 gi_40_0 ?_
  refine z_swI (tg := 136) gi_40_1 (by decide) (T := [((33 : Int), 158), ((48 : Int), 84), ((95 : Int), 177), ((99 : Int), 136), ((100 : Int), 103), ((104 : Int), 92), ((107 : Int), 114), ((109 : Int), 125), ((112 : Int), 147)]) rfl (by decide) ?_
  refine z_aload0 rfl ?_
  refine z_aload0 rfl ?_
  refine z_getI (v := e.2.2.2.2.1) rfl gk_1 (hf.2.2.2.2.1) ?_
  refine z_callVx (As := [_]) rfl rfl gk_1 (Nat.le_of_ble_eq_true rfl) (Nat.le_of_ble_eq_true rfl) (push_k (n := (t.length : Int)) (v := e.2.2.2.2.1) hR (by exact hn) (by omega)) ?_
  show zW _ _ _ _ _ _ _ _ _ _
  refine z_goto rfl ?_
  refine z_vret gi_40_211 gr_40 ?_
  refine ⟨rfl, (zK_x (a := 1) (x := 10) (v := (t.length : Int) + 1) (zK_x (a := 7) (x := (t.length : Int)) (v := e.2.2.2.2.1) zK_r rfl) rfl), ?_, rfl, rfl⟩
  exact sok_push (t := t) (v := e.2.2.2.2.1) (L := (t.length : Int)) ht hrt (by omega) (nv_r he 99)
theorem run_112 {X : Nat × (Nat → Int32)} {d : Nat} {J M : zA} {R : zR} {e : en6} {t : List Int}  (hR : zRok R) (hf : J 1 11 = e.1 ∧ J 1 12 = e.2.1 ∧ J 1 13 = e.2.2.1 ∧ J 1 14 = e.2.2.2.1 ∧ J 1 15 = e.2.2.2.2.1 ∧ J 1 16 = e.2.2.2.2.2) (he : e6r e) (hrt : stR t) (ht : stk J 7 t) (hn : J 1 10 = (t.length : Int)) (hl : (t.length : Int) ≤ 120) : zW X (d + 2) 40 0 (gEn 40 [.ref 1, zi 112, zi 0]) [] J M R (fun r J2 M2 R2 => r = none ∧ zK (kL [7] [(1, 10)]) J J2 ∧ sok J2 (nv e 112 :: t) ∧ M2 = M ∧ R2 = R) := by
  show zW _ _ _ _ [some (.ref 1), some (zi 112), some (zi 0), none, none] _ _ _ _ _
  refine z_iload1 gi_40_0 ?_
  refine z_swI (tg := 147) gi_40_1 (by decide) (T := [((33 : Int), 158), ((48 : Int), 84), ((95 : Int), 177), ((99 : Int), 136), ((100 : Int), 103), ((104 : Int), 92), ((107 : Int), 114), ((109 : Int), 125), ((112 : Int), 147)]) rfl (by decide) ?_
  refine z_aload0 rfl ?_
  refine z_aload0 rfl ?_
  refine z_getI (v := e.2.2.2.2.2) rfl gk_1 (hf.2.2.2.2.2) ?_
  refine z_callVx (As := [_]) rfl rfl gk_1 (Nat.le_of_ble_eq_true rfl) (Nat.le_of_ble_eq_true rfl) (push_k (n := (t.length : Int)) (v := e.2.2.2.2.2) hR (by exact hn) (by omega)) ?_
  show zW _ _ _ _ _ _ _ _ _ _
  refine z_goto rfl ?_
  refine z_vret gi_40_211 gr_40 ?_
  refine ⟨rfl, (zK_x (a := 1) (x := 10) (v := (t.length : Int) + 1) (zK_x (a := 7) (x := (t.length : Int)) (v := e.2.2.2.2.2) zK_r rfl) rfl), ?_, rfl, rfl⟩
  exact sok_push (t := t) (v := e.2.2.2.2.2) (L := (t.length : Int)) ht hrt (by omega) (nv_r he 112)
theorem run_33 {X : Nat × (Nat → Int32)} {d : Nat} {J M : zA} {R : zR} {e : en6} {t : List Int} {a : Int} (hR : zRok R) (hf : J 1 11 = e.1 ∧ J 1 12 = e.2.1 ∧ J 1 13 = e.2.2.1 ∧ J 1 14 = e.2.2.2.1 ∧ J 1 15 = e.2.2.2.2.1 ∧ J 1 16 = e.2.2.2.2.2) (he : e6r e) (hrt : stR t) (ht : stk J 7 t) (hn : J 1 10 = (t.length : Int) + 1) (hl : (t.length : Int) ≤ 119) (ha : J 7 (t.length : Int) = a) (ra : -2147483648 ≤ a ∧ a < 2147483648) : zW X (d + 2) 40 0 (gEn 40 [.ref 1, zi 33, zi 0]) [] J M R (fun r J2 M2 R2 => r = none ∧ zK (kL [7] [(1, 10)]) J J2 ∧ sok J2 ((if a = 0 then 1 else 0) :: t) ∧ M2 = M ∧ R2 = R) := by
  show zW _ _ _ _ [some (.ref 1), some (zi 33), some (zi 0), none, none] _ _ _ _ _
  refine z_iload1 gi_40_0 ?_
  refine z_swI (tg := 158) gi_40_1 (by decide) (T := [((33 : Int), 158), ((48 : Int), 84), ((95 : Int), 177), ((99 : Int), 136), ((100 : Int), 103), ((104 : Int), 92), ((107 : Int), 114), ((109 : Int), 125), ((112 : Int), 147)]) rfl (by decide) ?_
  refine z_aload0 rfl ?_
  refine z_aload0 rfl ?_
  refine z_callVx (As := []) rfl rfl gk_1 (Nat.le_of_ble_eq_true rfl) (Nat.le_of_ble_eq_true rfl) (pop_k (n := (t.length : Int) + 1) (v := a) hR (by exact hn) (by omega) (by exact (show J 7 ((t.length : Int) + 1 - 1) = a by rw [show (t.length : Int) + 1 - 1 = (t.length : Int) by omega]; exact ha))) ?_
  show zW _ _ _ _ _ (_ :: _) _ _ _ _
  refine z_if_ne rfl (by omega) (fun h1 => ?_) (fun h1 => ?_)
  · refine z_pushJ gp_40_170 ?_
    refine z_callVx (As := [_]) gi_40_171 rfl gk_1 (Nat.le_of_ble_eq_true rfl) (Nat.le_of_ble_eq_true rfl) (push_k (n := (t.length : Int) + 1 - 1) (v := 0) hR (by exact zU_e) (by omega)) ?_
    show zW _ _ _ _ _ _ _ _ _ _
    refine z_goto gi_40_174 ?_
    refine z_vret gi_40_211 gr_40 ?_
    refine ⟨rfl, (zK_x (a := 1) (x := 10) (v := (t.length : Int) + 1 - 1 + 1) (zK_x (a := 7) (x := (t.length : Int) + 1 - 1) (v := 0) (zK_x (a := 1) (x := 10) (v := (t.length : Int) + 1 - 1) zK_r rfl) rfl) rfl), ?_, rfl, rfl⟩
    rw [if_neg (by omega)]
    exact sok_push (t := t) (v := 0) (L := (t.length : Int) + 1 - 1) (stk_10 ht) hrt (by omega) (by decide)
  · refine z_pushJ gp_40_166 ?_
    refine z_goto rfl ?_
    refine z_callVx (As := [_]) gi_40_171 rfl gk_1 (Nat.le_of_ble_eq_true rfl) (Nat.le_of_ble_eq_true rfl) (push_k (n := (t.length : Int) + 1 - 1) (v := 1) hR (by exact zU_e) (by omega)) ?_
    show zW _ _ _ _ _ _ _ _ _ _
    refine z_goto gi_40_174 ?_
    refine z_vret gi_40_211 gr_40 ?_
    refine ⟨rfl, (zK_x (a := 1) (x := 10) (v := (t.length : Int) + 1 - 1 + 1) (zK_x (a := 7) (x := (t.length : Int) + 1 - 1) (v := 1) (zK_x (a := 1) (x := 10) (v := (t.length : Int) + 1 - 1) zK_r rfl) rfl) rfl), ?_, rfl, rfl⟩
    rw [if_pos (by omega)]
    exact sok_push (t := t) (v := 1) (L := (t.length : Int) + 1 - 1) (stk_10 ht) hrt (by omega) (by decide)
theorem run_95 {X : Nat × (Nat → Int32)} {d : Nat} {J M : zA} {R : zR} {e : en6} {t : List Int} {a : Int} (hR : zRok R) (hf : J 1 11 = e.1 ∧ J 1 12 = e.2.1 ∧ J 1 13 = e.2.2.1 ∧ J 1 14 = e.2.2.2.1 ∧ J 1 15 = e.2.2.2.2.1 ∧ J 1 16 = e.2.2.2.2.2) (he : e6r e) (hrt : stR t) (ht : stk J 7 t) (hn : J 1 10 = (t.length : Int) + 1) (hl : (t.length : Int) ≤ 119) (ha : J 7 (t.length : Int) = a) (ra : -2147483648 ≤ a ∧ a < 2147483648) : zW X (d + 2) 40 0 (gEn 40 [.ref 1, zi 95, zi 0]) [] J M R (fun r J2 M2 R2 => r = none ∧ zK (kL [7] [(1, 10)]) J J2 ∧ sok J2 (zn (-a) :: t) ∧ M2 = M ∧ R2 = R) := by
  show zW _ _ _ _ [some (.ref 1), some (zi 95), some (zi 0), none, none] _ _ _ _ _
  refine z_iload1 gi_40_0 ?_
  refine z_swI (tg := 177) gi_40_1 (by decide) (T := [((33 : Int), 158), ((48 : Int), 84), ((95 : Int), 177), ((99 : Int), 136), ((100 : Int), 103), ((104 : Int), 92), ((107 : Int), 114), ((109 : Int), 125), ((112 : Int), 147)]) rfl (by decide) ?_
  refine z_aload0 rfl ?_
  refine z_aload0 rfl ?_
  refine z_callVx (As := []) rfl rfl gk_1 (Nat.le_of_ble_eq_true rfl) (Nat.le_of_ble_eq_true rfl) (pop_k (n := (t.length : Int) + 1) (v := a) hR (by exact hn) (by omega) (by exact (show J 7 ((t.length : Int) + 1 - 1) = a by rw [show (t.length : Int) + 1 - 1 = (t.length : Int) by omega]; exact ha))) ?_
  show zW _ _ _ _ _ (_ :: _) _ _ _ _
  refine z_ineg (e := -a) rfl rfl ?_
  refine z_topn (e := zn (-a)) rfl ?_
  refine z_callVx (As := [_]) rfl rfl gk_1 (Nat.le_of_ble_eq_true rfl) (Nat.le_of_ble_eq_true rfl) (push_k (n := (t.length : Int) + 1 - 1) (v := zn (-a)) hR (by exact zU_e) (by omega)) ?_
  show zW _ _ _ _ _ _ _ _ _ _
  refine z_goto rfl ?_
  refine z_vret gi_40_211 gr_40 ?_
  refine ⟨rfl, (zK_x (a := 1) (x := 10) (v := (t.length : Int) + 1 - 1 + 1) (zK_x (a := 7) (x := (t.length : Int) + 1 - 1) (v := zn (-a)) (zK_x (a := 1) (x := 10) (v := (t.length : Int) + 1 - 1) zK_r rfl) rfl) rfl), ?_, rfl, rfl⟩
  exact sok_push (t := t) (v := zn (-a)) (L := (t.length : Int) + 1 - 1) (stk_10 ht) hrt (by omega) (zn_r _)
theorem run_124 {X : Nat × (Nat → Int32)} {d : Nat} {J M : zA} {R : zR} {e : en6} {t : List Int} {a b : Int} (hR : zRok R) (hf : J 1 11 = e.1 ∧ J 1 12 = e.2.1 ∧ J 1 13 = e.2.2.1 ∧ J 1 14 = e.2.2.2.1 ∧ J 1 15 = e.2.2.2.2.1 ∧ J 1 16 = e.2.2.2.2.2) (he : e6r e) (hrt : stR t) (ht : stk J 7 t) (hn : J 1 10 = (t.length : Int) + 1 + 1) (hl : (t.length : Int) ≤ 118) (ha : J 7 (t.length : Int) = a) (hb : J 7 ((t.length : Int) + 1) = b) (ra : -2147483648 ≤ a ∧ a < 2147483648) (rb : -2147483648 ≤ b ∧ b < 2147483648) : zW X (d + 2) 40 0 (gEn 40 [.ref 1, zi 124, zi 0]) [] J M R (fun r J2 M2 R2 => r = none ∧ zK (kL [7] [(1, 10)]) J J2 ∧ sok J2 (jn 124 a b :: t) ∧ M2 = M ∧ R2 = R) := by
  show zW _ _ _ _ [some (.ref 1), some (zi 124), some (zi 0), none, none] _ _ _ _ _
  refine z_iload1 gi_40_0 ?_
  refine z_swO (T := [((33 : Int), 158), ((48 : Int), 84), ((95 : Int), 177), ((99 : Int), 136), ((100 : Int), 103), ((104 : Int), 92), ((107 : Int), 114), ((109 : Int), 125), ((112 : Int), 147)]) gi_40_1 (by decide) rfl (by decide) ?_
  refine z_aload0 gi_40_189 ?_
  refine z_callVx (As := []) gi_40_190 rfl gk_1 (Nat.le_of_ble_eq_true rfl) (Nat.le_of_ble_eq_true rfl) (pop_k (n := (t.length : Int) + 1 + 1) (v := b) hR (by exact hn) (by omega) (by exact (show J 7 ((t.length : Int) + 1 + 1 - 1) = b by rw [show (t.length : Int) + 1 + 1 - 1 = (t.length : Int) + 1 by omega]; exact hb))) ?_
  show zW _ _ _ _ _ (_ :: _) _ _ _ _
  refine z_istore (ls1 := [some (.ref 1), some (zi 124), some (zi 0), some (zi b), none]) gi_40_193 rfl ?_
  refine z_aload0 gi_40_194 ?_
  refine z_callVx (As := []) gi_40_195 rfl gk_1 (Nat.le_of_ble_eq_true rfl) (Nat.le_of_ble_eq_true rfl) (pop_k (n := (t.length : Int) + 1 + 1 - 1) (v := a) hR (by exact zU_e) (by omega) (by exact (zU_n (by decide)).trans ((show J 7 ((t.length : Int) + 1 + 1 - 1 - 1) = a by rw [show (t.length : Int) + 1 + 1 - 1 - 1 = (t.length : Int) by omega]; exact ha)))) ?_
  show zW _ _ _ _ _ (_ :: _) _ _ _ _
  refine z_istore (ls1 := [some (.ref 1), some (zi 124), some (zi 0), some (zi b), some (zi a)]) gi_40_198 rfl ?_
  refine z_aload0 gi_40_200 ?_
  refine z_iload1 gi_40_201 ?_
  refine z_iload4 gi_40_202 ?_
  refine z_iload3 gi_40_204 ?_
  refine z_callSP (As := [_, _, _]) (v := jn 124 a b) gi_40_205 rfl (Nat.le_of_ble_eq_true rfl) (Nat.le_of_ble_eq_true rfl) (joinC (by decide) ra rb) ?_
  refine z_callVx (As := [_]) gi_40_208 rfl gk_1 (Nat.le_of_ble_eq_true rfl) (Nat.le_of_ble_eq_true rfl) (push_k (n := (t.length : Int) + 1 + 1 - 1 - 1) (v := jn 124 a b) hR (by exact zU_e) (by omega)) ?_
  show zW _ _ _ _ _ _ _ _ _ _
  refine z_vret gi_40_211 gr_40 ?_
  refine ⟨rfl, (zK_x (a := 1) (x := 10) (v := (t.length : Int) + 1 + 1 - 1 - 1 + 1) (zK_x (a := 7) (x := (t.length : Int) + 1 + 1 - 1 - 1) (v := jn 124 a b) (zK_x (a := 1) (x := 10) (v := (t.length : Int) + 1 + 1 - 1 - 1) (zK_x (a := 1) (x := 10) (v := (t.length : Int) + 1 + 1 - 1) zK_r rfl) rfl) rfl) rfl), ?_, rfl, rfl⟩
  exact sok_push (t := t) (v := jn 124 a b) (L := (t.length : Int) + 1 + 1 - 1 - 1) (stk_10 (stk_10 ht)) hrt (by omega) (jn_r 124 a b)
theorem run_38 {X : Nat × (Nat → Int32)} {d : Nat} {J M : zA} {R : zR} {e : en6} {t : List Int} {a b : Int} (hR : zRok R) (hf : J 1 11 = e.1 ∧ J 1 12 = e.2.1 ∧ J 1 13 = e.2.2.1 ∧ J 1 14 = e.2.2.2.1 ∧ J 1 15 = e.2.2.2.2.1 ∧ J 1 16 = e.2.2.2.2.2) (he : e6r e) (hrt : stR t) (ht : stk J 7 t) (hn : J 1 10 = (t.length : Int) + 1 + 1) (hl : (t.length : Int) ≤ 118) (ha : J 7 (t.length : Int) = a) (hb : J 7 ((t.length : Int) + 1) = b) (ra : -2147483648 ≤ a ∧ a < 2147483648) (rb : -2147483648 ≤ b ∧ b < 2147483648) : zW X (d + 2) 40 0 (gEn 40 [.ref 1, zi 38, zi 0]) [] J M R (fun r J2 M2 R2 => r = none ∧ zK (kL [7] [(1, 10)]) J J2 ∧ sok J2 (jn 38 a b :: t) ∧ M2 = M ∧ R2 = R) := by
  show zW _ _ _ _ [some (.ref 1), some (zi 38), some (zi 0), none, none] _ _ _ _ _
  refine z_iload1 gi_40_0 ?_
  refine z_swO (T := [((33 : Int), 158), ((48 : Int), 84), ((95 : Int), 177), ((99 : Int), 136), ((100 : Int), 103), ((104 : Int), 92), ((107 : Int), 114), ((109 : Int), 125), ((112 : Int), 147)]) gi_40_1 (by decide) rfl (by decide) ?_
  refine z_aload0 gi_40_189 ?_
  refine z_callVx (As := []) gi_40_190 rfl gk_1 (Nat.le_of_ble_eq_true rfl) (Nat.le_of_ble_eq_true rfl) (pop_k (n := (t.length : Int) + 1 + 1) (v := b) hR (by exact hn) (by omega) (by exact (show J 7 ((t.length : Int) + 1 + 1 - 1) = b by rw [show (t.length : Int) + 1 + 1 - 1 = (t.length : Int) + 1 by omega]; exact hb))) ?_
  show zW _ _ _ _ _ (_ :: _) _ _ _ _
  refine z_istore (ls1 := [some (.ref 1), some (zi 38), some (zi 0), some (zi b), none]) gi_40_193 rfl ?_
  refine z_aload0 gi_40_194 ?_
  refine z_callVx (As := []) gi_40_195 rfl gk_1 (Nat.le_of_ble_eq_true rfl) (Nat.le_of_ble_eq_true rfl) (pop_k (n := (t.length : Int) + 1 + 1 - 1) (v := a) hR (by exact zU_e) (by omega) (by exact (zU_n (by decide)).trans ((show J 7 ((t.length : Int) + 1 + 1 - 1 - 1) = a by rw [show (t.length : Int) + 1 + 1 - 1 - 1 = (t.length : Int) by omega]; exact ha)))) ?_
  show zW _ _ _ _ _ (_ :: _) _ _ _ _
  refine z_istore (ls1 := [some (.ref 1), some (zi 38), some (zi 0), some (zi b), some (zi a)]) gi_40_198 rfl ?_
  refine z_aload0 gi_40_200 ?_
  refine z_iload1 gi_40_201 ?_
  refine z_iload4 gi_40_202 ?_
  refine z_iload3 gi_40_204 ?_
  refine z_callSP (As := [_, _, _]) (v := jn 38 a b) gi_40_205 rfl (Nat.le_of_ble_eq_true rfl) (Nat.le_of_ble_eq_true rfl) (joinC (by decide) ra rb) ?_
  refine z_callVx (As := [_]) gi_40_208 rfl gk_1 (Nat.le_of_ble_eq_true rfl) (Nat.le_of_ble_eq_true rfl) (push_k (n := (t.length : Int) + 1 + 1 - 1 - 1) (v := jn 38 a b) hR (by exact zU_e) (by omega)) ?_
  show zW _ _ _ _ _ _ _ _ _ _
  refine z_vret gi_40_211 gr_40 ?_
  refine ⟨rfl, (zK_x (a := 1) (x := 10) (v := (t.length : Int) + 1 + 1 - 1 - 1 + 1) (zK_x (a := 7) (x := (t.length : Int) + 1 + 1 - 1 - 1) (v := jn 38 a b) (zK_x (a := 1) (x := 10) (v := (t.length : Int) + 1 + 1 - 1 - 1) (zK_x (a := 1) (x := 10) (v := (t.length : Int) + 1 + 1 - 1) zK_r rfl) rfl) rfl) rfl), ?_, rfl, rfl⟩
  exact sok_push (t := t) (v := jn 38 a b) (L := (t.length : Int) + 1 + 1 - 1 - 1) (stk_10 (stk_10 ht)) hrt (by omega) (jn_r 38 a b)
theorem run_60 {X : Nat × (Nat → Int32)} {d : Nat} {J M : zA} {R : zR} {e : en6} {t : List Int} {a b : Int} (hR : zRok R) (hf : J 1 11 = e.1 ∧ J 1 12 = e.2.1 ∧ J 1 13 = e.2.2.1 ∧ J 1 14 = e.2.2.2.1 ∧ J 1 15 = e.2.2.2.2.1 ∧ J 1 16 = e.2.2.2.2.2) (he : e6r e) (hrt : stR t) (ht : stk J 7 t) (hn : J 1 10 = (t.length : Int) + 1 + 1) (hl : (t.length : Int) ≤ 118) (ha : J 7 (t.length : Int) = a) (hb : J 7 ((t.length : Int) + 1) = b) (ra : -2147483648 ≤ a ∧ a < 2147483648) (rb : -2147483648 ≤ b ∧ b < 2147483648) : zW X (d + 2) 40 0 (gEn 40 [.ref 1, zi 60, zi 0]) [] J M R (fun r J2 M2 R2 => r = none ∧ zK (kL [7] [(1, 10)]) J J2 ∧ sok J2 (jn 60 a b :: t) ∧ M2 = M ∧ R2 = R) := by
  show zW _ _ _ _ [some (.ref 1), some (zi 60), some (zi 0), none, none] _ _ _ _ _
  refine z_iload1 gi_40_0 ?_
  refine z_swO (T := [((33 : Int), 158), ((48 : Int), 84), ((95 : Int), 177), ((99 : Int), 136), ((100 : Int), 103), ((104 : Int), 92), ((107 : Int), 114), ((109 : Int), 125), ((112 : Int), 147)]) gi_40_1 (by decide) rfl (by decide) ?_
  refine z_aload0 gi_40_189 ?_
  refine z_callVx (As := []) gi_40_190 rfl gk_1 (Nat.le_of_ble_eq_true rfl) (Nat.le_of_ble_eq_true rfl) (pop_k (n := (t.length : Int) + 1 + 1) (v := b) hR (by exact hn) (by omega) (by exact (show J 7 ((t.length : Int) + 1 + 1 - 1) = b by rw [show (t.length : Int) + 1 + 1 - 1 = (t.length : Int) + 1 by omega]; exact hb))) ?_
  show zW _ _ _ _ _ (_ :: _) _ _ _ _
  refine z_istore (ls1 := [some (.ref 1), some (zi 60), some (zi 0), some (zi b), none]) gi_40_193 rfl ?_
  refine z_aload0 gi_40_194 ?_
  refine z_callVx (As := []) gi_40_195 rfl gk_1 (Nat.le_of_ble_eq_true rfl) (Nat.le_of_ble_eq_true rfl) (pop_k (n := (t.length : Int) + 1 + 1 - 1) (v := a) hR (by exact zU_e) (by omega) (by exact (zU_n (by decide)).trans ((show J 7 ((t.length : Int) + 1 + 1 - 1 - 1) = a by rw [show (t.length : Int) + 1 + 1 - 1 - 1 = (t.length : Int) by omega]; exact ha)))) ?_
  show zW _ _ _ _ _ (_ :: _) _ _ _ _
  refine z_istore (ls1 := [some (.ref 1), some (zi 60), some (zi 0), some (zi b), some (zi a)]) gi_40_198 rfl ?_
  refine z_aload0 gi_40_200 ?_
  refine z_iload1 gi_40_201 ?_
  refine z_iload4 gi_40_202 ?_
  refine z_iload3 gi_40_204 ?_
  refine z_callSP (As := [_, _, _]) (v := jn 60 a b) gi_40_205 rfl (Nat.le_of_ble_eq_true rfl) (Nat.le_of_ble_eq_true rfl) (joinC (by decide) ra rb) ?_
  refine z_callVx (As := [_]) gi_40_208 rfl gk_1 (Nat.le_of_ble_eq_true rfl) (Nat.le_of_ble_eq_true rfl) (push_k (n := (t.length : Int) + 1 + 1 - 1 - 1) (v := jn 60 a b) hR (by exact zU_e) (by omega)) ?_
  show zW _ _ _ _ _ _ _ _ _ _
  refine z_vret gi_40_211 gr_40 ?_
  refine ⟨rfl, (zK_x (a := 1) (x := 10) (v := (t.length : Int) + 1 + 1 - 1 - 1 + 1) (zK_x (a := 7) (x := (t.length : Int) + 1 + 1 - 1 - 1) (v := jn 60 a b) (zK_x (a := 1) (x := 10) (v := (t.length : Int) + 1 + 1 - 1 - 1) (zK_x (a := 1) (x := 10) (v := (t.length : Int) + 1 + 1 - 1) zK_r rfl) rfl) rfl) rfl), ?_, rfl, rfl⟩
  exact sok_push (t := t) (v := jn 60 a b) (L := (t.length : Int) + 1 + 1 - 1 - 1) (stk_10 (stk_10 ht)) hrt (by omega) (jn_r 60 a b)
theorem run_61 {X : Nat × (Nat → Int32)} {d : Nat} {J M : zA} {R : zR} {e : en6} {t : List Int} {a b : Int} (hR : zRok R) (hf : J 1 11 = e.1 ∧ J 1 12 = e.2.1 ∧ J 1 13 = e.2.2.1 ∧ J 1 14 = e.2.2.2.1 ∧ J 1 15 = e.2.2.2.2.1 ∧ J 1 16 = e.2.2.2.2.2) (he : e6r e) (hrt : stR t) (ht : stk J 7 t) (hn : J 1 10 = (t.length : Int) + 1 + 1) (hl : (t.length : Int) ≤ 118) (ha : J 7 (t.length : Int) = a) (hb : J 7 ((t.length : Int) + 1) = b) (ra : -2147483648 ≤ a ∧ a < 2147483648) (rb : -2147483648 ≤ b ∧ b < 2147483648) : zW X (d + 2) 40 0 (gEn 40 [.ref 1, zi 61, zi 0]) [] J M R (fun r J2 M2 R2 => r = none ∧ zK (kL [7] [(1, 10)]) J J2 ∧ sok J2 (jn 61 a b :: t) ∧ M2 = M ∧ R2 = R) := by
  show zW _ _ _ _ [some (.ref 1), some (zi 61), some (zi 0), none, none] _ _ _ _ _
  refine z_iload1 gi_40_0 ?_
  refine z_swO (T := [((33 : Int), 158), ((48 : Int), 84), ((95 : Int), 177), ((99 : Int), 136), ((100 : Int), 103), ((104 : Int), 92), ((107 : Int), 114), ((109 : Int), 125), ((112 : Int), 147)]) gi_40_1 (by decide) rfl (by decide) ?_
  refine z_aload0 gi_40_189 ?_
  refine z_callVx (As := []) gi_40_190 rfl gk_1 (Nat.le_of_ble_eq_true rfl) (Nat.le_of_ble_eq_true rfl) (pop_k (n := (t.length : Int) + 1 + 1) (v := b) hR (by exact hn) (by omega) (by exact (show J 7 ((t.length : Int) + 1 + 1 - 1) = b by rw [show (t.length : Int) + 1 + 1 - 1 = (t.length : Int) + 1 by omega]; exact hb))) ?_
  show zW _ _ _ _ _ (_ :: _) _ _ _ _
  refine z_istore (ls1 := [some (.ref 1), some (zi 61), some (zi 0), some (zi b), none]) gi_40_193 rfl ?_
  refine z_aload0 gi_40_194 ?_
  refine z_callVx (As := []) gi_40_195 rfl gk_1 (Nat.le_of_ble_eq_true rfl) (Nat.le_of_ble_eq_true rfl) (pop_k (n := (t.length : Int) + 1 + 1 - 1) (v := a) hR (by exact zU_e) (by omega) (by exact (zU_n (by decide)).trans ((show J 7 ((t.length : Int) + 1 + 1 - 1 - 1) = a by rw [show (t.length : Int) + 1 + 1 - 1 - 1 = (t.length : Int) by omega]; exact ha)))) ?_
  show zW _ _ _ _ _ (_ :: _) _ _ _ _
  refine z_istore (ls1 := [some (.ref 1), some (zi 61), some (zi 0), some (zi b), some (zi a)]) gi_40_198 rfl ?_
  refine z_aload0 gi_40_200 ?_
  refine z_iload1 gi_40_201 ?_
  refine z_iload4 gi_40_202 ?_
  refine z_iload3 gi_40_204 ?_
  refine z_callSP (As := [_, _, _]) (v := jn 61 a b) gi_40_205 rfl (Nat.le_of_ble_eq_true rfl) (Nat.le_of_ble_eq_true rfl) (joinC (by decide) ra rb) ?_
  refine z_callVx (As := [_]) gi_40_208 rfl gk_1 (Nat.le_of_ble_eq_true rfl) (Nat.le_of_ble_eq_true rfl) (push_k (n := (t.length : Int) + 1 + 1 - 1 - 1) (v := jn 61 a b) hR (by exact zU_e) (by omega)) ?_
  show zW _ _ _ _ _ _ _ _ _ _
  refine z_vret gi_40_211 gr_40 ?_
  refine ⟨rfl, (zK_x (a := 1) (x := 10) (v := (t.length : Int) + 1 + 1 - 1 - 1 + 1) (zK_x (a := 7) (x := (t.length : Int) + 1 + 1 - 1 - 1) (v := jn 61 a b) (zK_x (a := 1) (x := 10) (v := (t.length : Int) + 1 + 1 - 1 - 1) (zK_x (a := 1) (x := 10) (v := (t.length : Int) + 1 + 1 - 1) zK_r rfl) rfl) rfl) rfl), ?_, rfl, rfl⟩
  exact sok_push (t := t) (v := jn 61 a b) (L := (t.length : Int) + 1 + 1 - 1 - 1) (stk_10 (stk_10 ht)) hrt (by omega) (jn_r 61 a b)
theorem run_62 {X : Nat × (Nat → Int32)} {d : Nat} {J M : zA} {R : zR} {e : en6} {t : List Int} {a b : Int} (hR : zRok R) (hf : J 1 11 = e.1 ∧ J 1 12 = e.2.1 ∧ J 1 13 = e.2.2.1 ∧ J 1 14 = e.2.2.2.1 ∧ J 1 15 = e.2.2.2.2.1 ∧ J 1 16 = e.2.2.2.2.2) (he : e6r e) (hrt : stR t) (ht : stk J 7 t) (hn : J 1 10 = (t.length : Int) + 1 + 1) (hl : (t.length : Int) ≤ 118) (ha : J 7 (t.length : Int) = a) (hb : J 7 ((t.length : Int) + 1) = b) (ra : -2147483648 ≤ a ∧ a < 2147483648) (rb : -2147483648 ≤ b ∧ b < 2147483648) : zW X (d + 2) 40 0 (gEn 40 [.ref 1, zi 62, zi 0]) [] J M R (fun r J2 M2 R2 => r = none ∧ zK (kL [7] [(1, 10)]) J J2 ∧ sok J2 (jn 62 a b :: t) ∧ M2 = M ∧ R2 = R) := by
  show zW _ _ _ _ [some (.ref 1), some (zi 62), some (zi 0), none, none] _ _ _ _ _
  refine z_iload1 gi_40_0 ?_
  refine z_swO (T := [((33 : Int), 158), ((48 : Int), 84), ((95 : Int), 177), ((99 : Int), 136), ((100 : Int), 103), ((104 : Int), 92), ((107 : Int), 114), ((109 : Int), 125), ((112 : Int), 147)]) gi_40_1 (by decide) rfl (by decide) ?_
  refine z_aload0 gi_40_189 ?_
  refine z_callVx (As := []) gi_40_190 rfl gk_1 (Nat.le_of_ble_eq_true rfl) (Nat.le_of_ble_eq_true rfl) (pop_k (n := (t.length : Int) + 1 + 1) (v := b) hR (by exact hn) (by omega) (by exact (show J 7 ((t.length : Int) + 1 + 1 - 1) = b by rw [show (t.length : Int) + 1 + 1 - 1 = (t.length : Int) + 1 by omega]; exact hb))) ?_
  show zW _ _ _ _ _ (_ :: _) _ _ _ _
  refine z_istore (ls1 := [some (.ref 1), some (zi 62), some (zi 0), some (zi b), none]) gi_40_193 rfl ?_
  refine z_aload0 gi_40_194 ?_
  refine z_callVx (As := []) gi_40_195 rfl gk_1 (Nat.le_of_ble_eq_true rfl) (Nat.le_of_ble_eq_true rfl) (pop_k (n := (t.length : Int) + 1 + 1 - 1) (v := a) hR (by exact zU_e) (by omega) (by exact (zU_n (by decide)).trans ((show J 7 ((t.length : Int) + 1 + 1 - 1 - 1) = a by rw [show (t.length : Int) + 1 + 1 - 1 - 1 = (t.length : Int) by omega]; exact ha)))) ?_
  show zW _ _ _ _ _ (_ :: _) _ _ _ _
  refine z_istore (ls1 := [some (.ref 1), some (zi 62), some (zi 0), some (zi b), some (zi a)]) gi_40_198 rfl ?_
  refine z_aload0 gi_40_200 ?_
  refine z_iload1 gi_40_201 ?_
  refine z_iload4 gi_40_202 ?_
  refine z_iload3 gi_40_204 ?_
  refine z_callSP (As := [_, _, _]) (v := jn 62 a b) gi_40_205 rfl (Nat.le_of_ble_eq_true rfl) (Nat.le_of_ble_eq_true rfl) (joinC (by decide) ra rb) ?_
  refine z_callVx (As := [_]) gi_40_208 rfl gk_1 (Nat.le_of_ble_eq_true rfl) (Nat.le_of_ble_eq_true rfl) (push_k (n := (t.length : Int) + 1 + 1 - 1 - 1) (v := jn 62 a b) hR (by exact zU_e) (by omega)) ?_
  show zW _ _ _ _ _ _ _ _ _ _
  refine z_vret gi_40_211 gr_40 ?_
  refine ⟨rfl, (zK_x (a := 1) (x := 10) (v := (t.length : Int) + 1 + 1 - 1 - 1 + 1) (zK_x (a := 7) (x := (t.length : Int) + 1 + 1 - 1 - 1) (v := jn 62 a b) (zK_x (a := 1) (x := 10) (v := (t.length : Int) + 1 + 1 - 1 - 1) (zK_x (a := 1) (x := 10) (v := (t.length : Int) + 1 + 1 - 1) zK_r rfl) rfl) rfl) rfl), ?_, rfl, rfl⟩
  exact sok_push (t := t) (v := jn 62 a b) (L := (t.length : Int) + 1 + 1 - 1 - 1) (stk_10 (stk_10 ht)) hrt (by omega) (jn_r 62 a b)
theorem run_43 {X : Nat × (Nat → Int32)} {d : Nat} {J M : zA} {R : zR} {e : en6} {t : List Int} {a b : Int} (hR : zRok R) (hf : J 1 11 = e.1 ∧ J 1 12 = e.2.1 ∧ J 1 13 = e.2.2.1 ∧ J 1 14 = e.2.2.2.1 ∧ J 1 15 = e.2.2.2.2.1 ∧ J 1 16 = e.2.2.2.2.2) (he : e6r e) (hrt : stR t) (ht : stk J 7 t) (hn : J 1 10 = (t.length : Int) + 1 + 1) (hl : (t.length : Int) ≤ 118) (ha : J 7 (t.length : Int) = a) (hb : J 7 ((t.length : Int) + 1) = b) (ra : -2147483648 ≤ a ∧ a < 2147483648) (rb : -2147483648 ≤ b ∧ b < 2147483648) : zW X (d + 2) 40 0 (gEn 40 [.ref 1, zi 43, zi 0]) [] J M R (fun r J2 M2 R2 => r = none ∧ zK (kL [7] [(1, 10)]) J J2 ∧ sok J2 (jn 43 a b :: t) ∧ M2 = M ∧ R2 = R) := by
  show zW _ _ _ _ [some (.ref 1), some (zi 43), some (zi 0), none, none] _ _ _ _ _
  refine z_iload1 gi_40_0 ?_
  refine z_swO (T := [((33 : Int), 158), ((48 : Int), 84), ((95 : Int), 177), ((99 : Int), 136), ((100 : Int), 103), ((104 : Int), 92), ((107 : Int), 114), ((109 : Int), 125), ((112 : Int), 147)]) gi_40_1 (by decide) rfl (by decide) ?_
  refine z_aload0 gi_40_189 ?_
  refine z_callVx (As := []) gi_40_190 rfl gk_1 (Nat.le_of_ble_eq_true rfl) (Nat.le_of_ble_eq_true rfl) (pop_k (n := (t.length : Int) + 1 + 1) (v := b) hR (by exact hn) (by omega) (by exact (show J 7 ((t.length : Int) + 1 + 1 - 1) = b by rw [show (t.length : Int) + 1 + 1 - 1 = (t.length : Int) + 1 by omega]; exact hb))) ?_
  show zW _ _ _ _ _ (_ :: _) _ _ _ _
  refine z_istore (ls1 := [some (.ref 1), some (zi 43), some (zi 0), some (zi b), none]) gi_40_193 rfl ?_
  refine z_aload0 gi_40_194 ?_
  refine z_callVx (As := []) gi_40_195 rfl gk_1 (Nat.le_of_ble_eq_true rfl) (Nat.le_of_ble_eq_true rfl) (pop_k (n := (t.length : Int) + 1 + 1 - 1) (v := a) hR (by exact zU_e) (by omega) (by exact (zU_n (by decide)).trans ((show J 7 ((t.length : Int) + 1 + 1 - 1 - 1) = a by rw [show (t.length : Int) + 1 + 1 - 1 - 1 = (t.length : Int) by omega]; exact ha)))) ?_
  show zW _ _ _ _ _ (_ :: _) _ _ _ _
  refine z_istore (ls1 := [some (.ref 1), some (zi 43), some (zi 0), some (zi b), some (zi a)]) gi_40_198 rfl ?_
  refine z_aload0 gi_40_200 ?_
  refine z_iload1 gi_40_201 ?_
  refine z_iload4 gi_40_202 ?_
  refine z_iload3 gi_40_204 ?_
  refine z_callSP (As := [_, _, _]) (v := jn 43 a b) gi_40_205 rfl (Nat.le_of_ble_eq_true rfl) (Nat.le_of_ble_eq_true rfl) (joinC (by decide) ra rb) ?_
  refine z_callVx (As := [_]) gi_40_208 rfl gk_1 (Nat.le_of_ble_eq_true rfl) (Nat.le_of_ble_eq_true rfl) (push_k (n := (t.length : Int) + 1 + 1 - 1 - 1) (v := jn 43 a b) hR (by exact zU_e) (by omega)) ?_
  show zW _ _ _ _ _ _ _ _ _ _
  refine z_vret gi_40_211 gr_40 ?_
  refine ⟨rfl, (zK_x (a := 1) (x := 10) (v := (t.length : Int) + 1 + 1 - 1 - 1 + 1) (zK_x (a := 7) (x := (t.length : Int) + 1 + 1 - 1 - 1) (v := jn 43 a b) (zK_x (a := 1) (x := 10) (v := (t.length : Int) + 1 + 1 - 1 - 1) (zK_x (a := 1) (x := 10) (v := (t.length : Int) + 1 + 1 - 1) zK_r rfl) rfl) rfl) rfl), ?_, rfl, rfl⟩
  exact sok_push (t := t) (v := jn 43 a b) (L := (t.length : Int) + 1 + 1 - 1 - 1) (stk_10 (stk_10 ht)) hrt (by omega) (jn_r 43 a b)
theorem run_45 {X : Nat × (Nat → Int32)} {d : Nat} {J M : zA} {R : zR} {e : en6} {t : List Int} {a b : Int} (hR : zRok R) (hf : J 1 11 = e.1 ∧ J 1 12 = e.2.1 ∧ J 1 13 = e.2.2.1 ∧ J 1 14 = e.2.2.2.1 ∧ J 1 15 = e.2.2.2.2.1 ∧ J 1 16 = e.2.2.2.2.2) (he : e6r e) (hrt : stR t) (ht : stk J 7 t) (hn : J 1 10 = (t.length : Int) + 1 + 1) (hl : (t.length : Int) ≤ 118) (ha : J 7 (t.length : Int) = a) (hb : J 7 ((t.length : Int) + 1) = b) (ra : -2147483648 ≤ a ∧ a < 2147483648) (rb : -2147483648 ≤ b ∧ b < 2147483648) : zW X (d + 2) 40 0 (gEn 40 [.ref 1, zi 45, zi 0]) [] J M R (fun r J2 M2 R2 => r = none ∧ zK (kL [7] [(1, 10)]) J J2 ∧ sok J2 (jn 45 a b :: t) ∧ M2 = M ∧ R2 = R) := by
  show zW _ _ _ _ [some (.ref 1), some (zi 45), some (zi 0), none, none] _ _ _ _ _
  refine z_iload1 gi_40_0 ?_
  refine z_swO (T := [((33 : Int), 158), ((48 : Int), 84), ((95 : Int), 177), ((99 : Int), 136), ((100 : Int), 103), ((104 : Int), 92), ((107 : Int), 114), ((109 : Int), 125), ((112 : Int), 147)]) gi_40_1 (by decide) rfl (by decide) ?_
  refine z_aload0 gi_40_189 ?_
  refine z_callVx (As := []) gi_40_190 rfl gk_1 (Nat.le_of_ble_eq_true rfl) (Nat.le_of_ble_eq_true rfl) (pop_k (n := (t.length : Int) + 1 + 1) (v := b) hR (by exact hn) (by omega) (by exact (show J 7 ((t.length : Int) + 1 + 1 - 1) = b by rw [show (t.length : Int) + 1 + 1 - 1 = (t.length : Int) + 1 by omega]; exact hb))) ?_
  show zW _ _ _ _ _ (_ :: _) _ _ _ _
  refine z_istore (ls1 := [some (.ref 1), some (zi 45), some (zi 0), some (zi b), none]) gi_40_193 rfl ?_
  refine z_aload0 gi_40_194 ?_
  refine z_callVx (As := []) gi_40_195 rfl gk_1 (Nat.le_of_ble_eq_true rfl) (Nat.le_of_ble_eq_true rfl) (pop_k (n := (t.length : Int) + 1 + 1 - 1) (v := a) hR (by exact zU_e) (by omega) (by exact (zU_n (by decide)).trans ((show J 7 ((t.length : Int) + 1 + 1 - 1 - 1) = a by rw [show (t.length : Int) + 1 + 1 - 1 - 1 = (t.length : Int) by omega]; exact ha)))) ?_
  show zW _ _ _ _ _ (_ :: _) _ _ _ _
  refine z_istore (ls1 := [some (.ref 1), some (zi 45), some (zi 0), some (zi b), some (zi a)]) gi_40_198 rfl ?_
  refine z_aload0 gi_40_200 ?_
  refine z_iload1 gi_40_201 ?_
  refine z_iload4 gi_40_202 ?_
  refine z_iload3 gi_40_204 ?_
  refine z_callSP (As := [_, _, _]) (v := jn 45 a b) gi_40_205 rfl (Nat.le_of_ble_eq_true rfl) (Nat.le_of_ble_eq_true rfl) (joinC (by decide) ra rb) ?_
  refine z_callVx (As := [_]) gi_40_208 rfl gk_1 (Nat.le_of_ble_eq_true rfl) (Nat.le_of_ble_eq_true rfl) (push_k (n := (t.length : Int) + 1 + 1 - 1 - 1) (v := jn 45 a b) hR (by exact zU_e) (by omega)) ?_
  show zW _ _ _ _ _ _ _ _ _ _
  refine z_vret gi_40_211 gr_40 ?_
  refine ⟨rfl, (zK_x (a := 1) (x := 10) (v := (t.length : Int) + 1 + 1 - 1 - 1 + 1) (zK_x (a := 7) (x := (t.length : Int) + 1 + 1 - 1 - 1) (v := jn 45 a b) (zK_x (a := 1) (x := 10) (v := (t.length : Int) + 1 + 1 - 1 - 1) (zK_x (a := 1) (x := 10) (v := (t.length : Int) + 1 + 1 - 1) zK_r rfl) rfl) rfl) rfl), ?_, rfl, rfl⟩
  exact sok_push (t := t) (v := jn 45 a b) (L := (t.length : Int) + 1 + 1 - 1 - 1) (stk_10 (stk_10 ht)) hrt (by omega) (jn_r 45 a b)
theorem run_42 {X : Nat × (Nat → Int32)} {d : Nat} {J M : zA} {R : zR} {e : en6} {t : List Int} {a b : Int} (hR : zRok R) (hf : J 1 11 = e.1 ∧ J 1 12 = e.2.1 ∧ J 1 13 = e.2.2.1 ∧ J 1 14 = e.2.2.2.1 ∧ J 1 15 = e.2.2.2.2.1 ∧ J 1 16 = e.2.2.2.2.2) (he : e6r e) (hrt : stR t) (ht : stk J 7 t) (hn : J 1 10 = (t.length : Int) + 1 + 1) (hl : (t.length : Int) ≤ 118) (ha : J 7 (t.length : Int) = a) (hb : J 7 ((t.length : Int) + 1) = b) (ra : -2147483648 ≤ a ∧ a < 2147483648) (rb : -2147483648 ≤ b ∧ b < 2147483648) : zW X (d + 2) 40 0 (gEn 40 [.ref 1, zi 42, zi 0]) [] J M R (fun r J2 M2 R2 => r = none ∧ zK (kL [7] [(1, 10)]) J J2 ∧ sok J2 (jn 42 a b :: t) ∧ M2 = M ∧ R2 = R) := by
  show zW _ _ _ _ [some (.ref 1), some (zi 42), some (zi 0), none, none] _ _ _ _ _
  refine z_iload1 gi_40_0 ?_
  refine z_swO (T := [((33 : Int), 158), ((48 : Int), 84), ((95 : Int), 177), ((99 : Int), 136), ((100 : Int), 103), ((104 : Int), 92), ((107 : Int), 114), ((109 : Int), 125), ((112 : Int), 147)]) gi_40_1 (by decide) rfl (by decide) ?_
  refine z_aload0 gi_40_189 ?_
  refine z_callVx (As := []) gi_40_190 rfl gk_1 (Nat.le_of_ble_eq_true rfl) (Nat.le_of_ble_eq_true rfl) (pop_k (n := (t.length : Int) + 1 + 1) (v := b) hR (by exact hn) (by omega) (by exact (show J 7 ((t.length : Int) + 1 + 1 - 1) = b by rw [show (t.length : Int) + 1 + 1 - 1 = (t.length : Int) + 1 by omega]; exact hb))) ?_
  show zW _ _ _ _ _ (_ :: _) _ _ _ _
  refine z_istore (ls1 := [some (.ref 1), some (zi 42), some (zi 0), some (zi b), none]) gi_40_193 rfl ?_
  refine z_aload0 gi_40_194 ?_
  refine z_callVx (As := []) gi_40_195 rfl gk_1 (Nat.le_of_ble_eq_true rfl) (Nat.le_of_ble_eq_true rfl) (pop_k (n := (t.length : Int) + 1 + 1 - 1) (v := a) hR (by exact zU_e) (by omega) (by exact (zU_n (by decide)).trans ((show J 7 ((t.length : Int) + 1 + 1 - 1 - 1) = a by rw [show (t.length : Int) + 1 + 1 - 1 - 1 = (t.length : Int) by omega]; exact ha)))) ?_
  show zW _ _ _ _ _ (_ :: _) _ _ _ _
  refine z_istore (ls1 := [some (.ref 1), some (zi 42), some (zi 0), some (zi b), some (zi a)]) gi_40_198 rfl ?_
  refine z_aload0 gi_40_200 ?_
  refine z_iload1 gi_40_201 ?_
  refine z_iload4 gi_40_202 ?_
  refine z_iload3 gi_40_204 ?_
  refine z_callSP (As := [_, _, _]) (v := jn 42 a b) gi_40_205 rfl (Nat.le_of_ble_eq_true rfl) (Nat.le_of_ble_eq_true rfl) (joinC (by decide) ra rb) ?_
  refine z_callVx (As := [_]) gi_40_208 rfl gk_1 (Nat.le_of_ble_eq_true rfl) (Nat.le_of_ble_eq_true rfl) (push_k (n := (t.length : Int) + 1 + 1 - 1 - 1) (v := jn 42 a b) hR (by exact zU_e) (by omega)) ?_
  show zW _ _ _ _ _ _ _ _ _ _
  refine z_vret gi_40_211 gr_40 ?_
  refine ⟨rfl, (zK_x (a := 1) (x := 10) (v := (t.length : Int) + 1 + 1 - 1 - 1 + 1) (zK_x (a := 7) (x := (t.length : Int) + 1 + 1 - 1 - 1) (v := jn 42 a b) (zK_x (a := 1) (x := 10) (v := (t.length : Int) + 1 + 1 - 1 - 1) (zK_x (a := 1) (x := 10) (v := (t.length : Int) + 1 + 1 - 1) zK_r rfl) rfl) rfl) rfl), ?_, rfl, rfl⟩
  exact sok_push (t := t) (v := jn 42 a b) (L := (t.length : Int) + 1 + 1 - 1 - 1) (stk_10 (stk_10 ht)) hrt (by omega) (jn_r 42 a b)
theorem run_47 {X : Nat × (Nat → Int32)} {d : Nat} {J M : zA} {R : zR} {e : en6} {t : List Int} {a b : Int} (hR : zRok R) (hf : J 1 11 = e.1 ∧ J 1 12 = e.2.1 ∧ J 1 13 = e.2.2.1 ∧ J 1 14 = e.2.2.2.1 ∧ J 1 15 = e.2.2.2.2.1 ∧ J 1 16 = e.2.2.2.2.2) (he : e6r e) (hrt : stR t) (ht : stk J 7 t) (hn : J 1 10 = (t.length : Int) + 1 + 1) (hl : (t.length : Int) ≤ 118) (ha : J 7 (t.length : Int) = a) (hb : J 7 ((t.length : Int) + 1) = b) (ra : -2147483648 ≤ a ∧ a < 2147483648) (rb : -2147483648 ≤ b ∧ b < 2147483648) : zW X (d + 2) 40 0 (gEn 40 [.ref 1, zi 47, zi 0]) [] J M R (fun r J2 M2 R2 => r = none ∧ zK (kL [7] [(1, 10)]) J J2 ∧ sok J2 (jn 47 a b :: t) ∧ M2 = M ∧ R2 = R) := by
  show zW _ _ _ _ [some (.ref 1), some (zi 47), some (zi 0), none, none] _ _ _ _ _
  refine z_iload1 gi_40_0 ?_
  refine z_swO (T := [((33 : Int), 158), ((48 : Int), 84), ((95 : Int), 177), ((99 : Int), 136), ((100 : Int), 103), ((104 : Int), 92), ((107 : Int), 114), ((109 : Int), 125), ((112 : Int), 147)]) gi_40_1 (by decide) rfl (by decide) ?_
  refine z_aload0 gi_40_189 ?_
  refine z_callVx (As := []) gi_40_190 rfl gk_1 (Nat.le_of_ble_eq_true rfl) (Nat.le_of_ble_eq_true rfl) (pop_k (n := (t.length : Int) + 1 + 1) (v := b) hR (by exact hn) (by omega) (by exact (show J 7 ((t.length : Int) + 1 + 1 - 1) = b by rw [show (t.length : Int) + 1 + 1 - 1 = (t.length : Int) + 1 by omega]; exact hb))) ?_
  show zW _ _ _ _ _ (_ :: _) _ _ _ _
  refine z_istore (ls1 := [some (.ref 1), some (zi 47), some (zi 0), some (zi b), none]) gi_40_193 rfl ?_
  refine z_aload0 gi_40_194 ?_
  refine z_callVx (As := []) gi_40_195 rfl gk_1 (Nat.le_of_ble_eq_true rfl) (Nat.le_of_ble_eq_true rfl) (pop_k (n := (t.length : Int) + 1 + 1 - 1) (v := a) hR (by exact zU_e) (by omega) (by exact (zU_n (by decide)).trans ((show J 7 ((t.length : Int) + 1 + 1 - 1 - 1) = a by rw [show (t.length : Int) + 1 + 1 - 1 - 1 = (t.length : Int) by omega]; exact ha)))) ?_
  show zW _ _ _ _ _ (_ :: _) _ _ _ _
  refine z_istore (ls1 := [some (.ref 1), some (zi 47), some (zi 0), some (zi b), some (zi a)]) gi_40_198 rfl ?_
  refine z_aload0 gi_40_200 ?_
  refine z_iload1 gi_40_201 ?_
  refine z_iload4 gi_40_202 ?_
  refine z_iload3 gi_40_204 ?_
  refine z_callSP (As := [_, _, _]) (v := jn 47 a b) gi_40_205 rfl (Nat.le_of_ble_eq_true rfl) (Nat.le_of_ble_eq_true rfl) (joinC (by decide) ra rb) ?_
  refine z_callVx (As := [_]) gi_40_208 rfl gk_1 (Nat.le_of_ble_eq_true rfl) (Nat.le_of_ble_eq_true rfl) (push_k (n := (t.length : Int) + 1 + 1 - 1 - 1) (v := jn 47 a b) hR (by exact zU_e) (by omega)) ?_
  show zW _ _ _ _ _ _ _ _ _ _
  refine z_vret gi_40_211 gr_40 ?_
  refine ⟨rfl, (zK_x (a := 1) (x := 10) (v := (t.length : Int) + 1 + 1 - 1 - 1 + 1) (zK_x (a := 7) (x := (t.length : Int) + 1 + 1 - 1 - 1) (v := jn 47 a b) (zK_x (a := 1) (x := 10) (v := (t.length : Int) + 1 + 1 - 1 - 1) (zK_x (a := 1) (x := 10) (v := (t.length : Int) + 1 + 1 - 1) zK_r rfl) rfl) rfl) rfl), ?_, rfl, rfl⟩
  exact sok_push (t := t) (v := jn 47 a b) (L := (t.length : Int) + 1 + 1 - 1 - 1) (stk_10 (stk_10 ht)) hrt (by omega) (jn_r 47 a b)
theorem run_37 {X : Nat × (Nat → Int32)} {d : Nat} {J M : zA} {R : zR} {e : en6} {t : List Int} {a b : Int} (hR : zRok R) (hf : J 1 11 = e.1 ∧ J 1 12 = e.2.1 ∧ J 1 13 = e.2.2.1 ∧ J 1 14 = e.2.2.2.1 ∧ J 1 15 = e.2.2.2.2.1 ∧ J 1 16 = e.2.2.2.2.2) (he : e6r e) (hrt : stR t) (ht : stk J 7 t) (hn : J 1 10 = (t.length : Int) + 1 + 1) (hl : (t.length : Int) ≤ 118) (ha : J 7 (t.length : Int) = a) (hb : J 7 ((t.length : Int) + 1) = b) (ra : -2147483648 ≤ a ∧ a < 2147483648) (rb : -2147483648 ≤ b ∧ b < 2147483648) : zW X (d + 2) 40 0 (gEn 40 [.ref 1, zi 37, zi 0]) [] J M R (fun r J2 M2 R2 => r = none ∧ zK (kL [7] [(1, 10)]) J J2 ∧ sok J2 (jn 37 a b :: t) ∧ M2 = M ∧ R2 = R) := by
  show zW _ _ _ _ [some (.ref 1), some (zi 37), some (zi 0), none, none] _ _ _ _ _
  refine z_iload1 gi_40_0 ?_
  refine z_swO (T := [((33 : Int), 158), ((48 : Int), 84), ((95 : Int), 177), ((99 : Int), 136), ((100 : Int), 103), ((104 : Int), 92), ((107 : Int), 114), ((109 : Int), 125), ((112 : Int), 147)]) gi_40_1 (by decide) rfl (by decide) ?_
  refine z_aload0 gi_40_189 ?_
  refine z_callVx (As := []) gi_40_190 rfl gk_1 (Nat.le_of_ble_eq_true rfl) (Nat.le_of_ble_eq_true rfl) (pop_k (n := (t.length : Int) + 1 + 1) (v := b) hR (by exact hn) (by omega) (by exact (show J 7 ((t.length : Int) + 1 + 1 - 1) = b by rw [show (t.length : Int) + 1 + 1 - 1 = (t.length : Int) + 1 by omega]; exact hb))) ?_
  show zW _ _ _ _ _ (_ :: _) _ _ _ _
  refine z_istore (ls1 := [some (.ref 1), some (zi 37), some (zi 0), some (zi b), none]) gi_40_193 rfl ?_
  refine z_aload0 gi_40_194 ?_
  refine z_callVx (As := []) gi_40_195 rfl gk_1 (Nat.le_of_ble_eq_true rfl) (Nat.le_of_ble_eq_true rfl) (pop_k (n := (t.length : Int) + 1 + 1 - 1) (v := a) hR (by exact zU_e) (by omega) (by exact (zU_n (by decide)).trans ((show J 7 ((t.length : Int) + 1 + 1 - 1 - 1) = a by rw [show (t.length : Int) + 1 + 1 - 1 - 1 = (t.length : Int) by omega]; exact ha)))) ?_
  show zW _ _ _ _ _ (_ :: _) _ _ _ _
  refine z_istore (ls1 := [some (.ref 1), some (zi 37), some (zi 0), some (zi b), some (zi a)]) gi_40_198 rfl ?_
  refine z_aload0 gi_40_200 ?_
  refine z_iload1 gi_40_201 ?_
  refine z_iload4 gi_40_202 ?_
  refine z_iload3 gi_40_204 ?_
  refine z_callSP (As := [_, _, _]) (v := jn 37 a b) gi_40_205 rfl (Nat.le_of_ble_eq_true rfl) (Nat.le_of_ble_eq_true rfl) (joinC (by decide) ra rb) ?_
  refine z_callVx (As := [_]) gi_40_208 rfl gk_1 (Nat.le_of_ble_eq_true rfl) (Nat.le_of_ble_eq_true rfl) (push_k (n := (t.length : Int) + 1 + 1 - 1 - 1) (v := jn 37 a b) hR (by exact zU_e) (by omega)) ?_
  show zW _ _ _ _ _ _ _ _ _ _
  refine z_vret gi_40_211 gr_40 ?_
  refine ⟨rfl, (zK_x (a := 1) (x := 10) (v := (t.length : Int) + 1 + 1 - 1 - 1 + 1) (zK_x (a := 7) (x := (t.length : Int) + 1 + 1 - 1 - 1) (v := jn 37 a b) (zK_x (a := 1) (x := 10) (v := (t.length : Int) + 1 + 1 - 1 - 1) (zK_x (a := 1) (x := 10) (v := (t.length : Int) + 1 + 1 - 1) zK_r rfl) rfl) rfl) rfl), ?_, rfl, rfl⟩
  exact sok_push (t := t) (v := jn 37 a b) (L := (t.length : Int) + 1 + 1 - 1 - 1) (stk_10 (stk_10 ht)) hrt (by omega) (jn_r 37 a b)
theorem run1 {X : Nat × (Nat → Int32)} {d : Nat} {J M : zA} {R : zR} {e : en6} {st : List Int} {x : Int × Int} {m : Nat} (hR : zRok R) (hf : J 1 11 = e.1 ∧ J 1 12 = e.2.1 ∧ J 1 13 = e.2.2.1 ∧ J 1 14 = e.2.2.2.1 ∧ J 1 15 = e.2.2.2.2.1 ∧ J 1 16 = e.2.2.2.2.2) (he : e6r e) (hs : sok J st) (hl : (st.length : Int) ≤ 120) (ok : okc x) (hd : dp1 x st.length = some m) : zW X (d + 2) 40 0 (gEn 40 [.ref 1, zi x.1, zi x.2]) [] J M R (fun r J2 M2 R2 => (r = none ∧ zK (kL [7] [(1, 10)]) J J2 ∧ sok J2 (x1 e x st) ∧ M2 = M ∧ R2 = R) ∧ (x1 e x st).length = m) := by
  obtain ⟨s, v⟩ := x
  obtain ⟨h1, h2, h3⟩ := hs
  rcases ok with ⟨k1, k2⟩ | ⟨k1, k2⟩ | ⟨k1, k2⟩ | ⟨k1, k2⟩
  · have k1 : s = 48 := k1
    subst k1
    have hm := dp_1 (Or.inl rfl) hd
    exact zW_m (run_48 (v := v) hR hf he h3 h2 h1 hl k2) (fun r J2 M2 R2 h => ⟨h, by rw [hm]; rfl⟩)
  · have k2 : v = 0 := k2
    subst k2
    have hm := dp_1 (Or.inr k1) hd
    have k1 : s = 104 ∨ s = 100 ∨ s = 107 ∨ s = 109 ∨ s = 99 ∨ s = 112 := k1
    have hx := x1_n (e := e) (st := st) (show nmd s from k1)
    rw [hx]
    rcases k1 with rfl | rfl | rfl | rfl | rfl | rfl
    · exact zW_m (run_104 hR hf he h3 h2 h1 hl) (fun r J2 M2 R2 h => ⟨h, by rw [hm]; rfl⟩)
    · exact zW_m (run_100 hR hf he h3 h2 h1 hl) (fun r J2 M2 R2 h => ⟨h, by rw [hm]; rfl⟩)
    · exact zW_m (run_107 hR hf he h3 h2 h1 hl) (fun r J2 M2 R2 h => ⟨h, by rw [hm]; rfl⟩)
    · exact zW_m (run_109 hR hf he h3 h2 h1 hl) (fun r J2 M2 R2 h => ⟨h, by rw [hm]; rfl⟩)
    · exact zW_m (run_99 hR hf he h3 h2 h1 hl) (fun r J2 M2 R2 h => ⟨h, by rw [hm]; rfl⟩)
    · exact zW_m (run_112 hR hf he h3 h2 h1 hl) (fun r J2 M2 R2 h => ⟨h, by rw [hm]; rfl⟩)
  · have k2 : v = 0 := k2
    subst k2
    have k1 : s = 33 ∨ s = 95 := k1
    have hm := dp_2 k1 hd
    cases st with
    | nil => exact absurd hm.1 (by decide)
    | cons a t =>
      have hL : ((a :: t).length : Int) = (t.length : Int) + 1 := by rw [List.length_cons]; omega
      rw [hL] at h1 hl
      have ra := h3 a (List.mem_cons_self ..)
      have hrt : stR t := fun w hw => h3 w (List.mem_cons_of_mem _ hw)
      rcases k1 with rfl | rfl
      · exact zW_m (run_33 (a := a) hR hf he hrt h2.2 h1 (by omega) h2.1 ra) (fun r J2 M2 R2 h => ⟨h, by rw [hm.2]; rfl⟩)
      · exact zW_m (run_95 (a := a) hR hf he hrt h2.2 h1 (by omega) h2.1 ra) (fun r J2 M2 R2 h => ⟨h, by rw [hm.2]; rfl⟩)
  · have k2 : v = 0 := k2
    subst k2
    have k1 : 0 ≤ rk s := k1
    have hm := dp_3 k1 hd
    cases st with
    | nil => exact absurd hm.1 (by decide)
    | cons b u =>
      cases u with
      | nil => exact absurd (show 2 ≤ 1 from hm.1) (by decide)
      | cons a t =>
        have hL : ((b :: a :: t).length : Int) = (t.length : Int) + 1 + 1 := by rw [List.length_cons, List.length_cons]; omega
        rw [hL] at h1 hl
        have rb := h3 b (List.mem_cons_self ..)
        have ra := h3 a (List.mem_cons_of_mem _ (List.mem_cons_self ..))
        have hrt : stR t := fun w hw => h3 w (List.mem_cons_of_mem _ (List.mem_cons_of_mem _ hw))
        have hb : J 7 ((t.length : Int) + 1) = b := by
          have q := h2.1
          rw [List.length_cons] at q
          exact q
        have hm2 : (jn s a b :: t).length = m := by
          have q := hm.2
          rw [List.length_cons, List.length_cons] at q
          rw [List.length_cons]
          omega
        rw [x1_b k1]
        have e : s = 124 ∨ s = 38 ∨ s = 60 ∨ s = 61 ∨ s = 62 ∨ s = 43 ∨ s = 45 ∨ s = 42 ∨ s = 47 ∨ s = 37 := by
          unfold rk at k1
          (repeat' split at k1) <;> omega
        rcases e with rfl | rfl | rfl | rfl | rfl | rfl | rfl | rfl | rfl | rfl
        · exact zW_m (run_124 (a := a) (b := b) hR hf he hrt h2.2.2 h1 (by omega) h2.2.1 hb ra rb) (fun r J2 M2 R2 h => ⟨h, hm2⟩)
        · exact zW_m (run_38 (a := a) (b := b) hR hf he hrt h2.2.2 h1 (by omega) h2.2.1 hb ra rb) (fun r J2 M2 R2 h => ⟨h, hm2⟩)
        · exact zW_m (run_60 (a := a) (b := b) hR hf he hrt h2.2.2 h1 (by omega) h2.2.1 hb ra rb) (fun r J2 M2 R2 h => ⟨h, hm2⟩)
        · exact zW_m (run_61 (a := a) (b := b) hR hf he hrt h2.2.2 h1 (by omega) h2.2.1 hb ra rb) (fun r J2 M2 R2 h => ⟨h, hm2⟩)
        · exact zW_m (run_62 (a := a) (b := b) hR hf he hrt h2.2.2 h1 (by omega) h2.2.1 hb ra rb) (fun r J2 M2 R2 h => ⟨h, hm2⟩)
        · exact zW_m (run_43 (a := a) (b := b) hR hf he hrt h2.2.2 h1 (by omega) h2.2.1 hb ra rb) (fun r J2 M2 R2 h => ⟨h, hm2⟩)
        · exact zW_m (run_45 (a := a) (b := b) hR hf he hrt h2.2.2 h1 (by omega) h2.2.1 hb ra rb) (fun r J2 M2 R2 h => ⟨h, hm2⟩)
        · exact zW_m (run_42 (a := a) (b := b) hR hf he hrt h2.2.2 h1 (by omega) h2.2.1 hb ra rb) (fun r J2 M2 R2 h => ⟨h, hm2⟩)
        · exact zW_m (run_47 (a := a) (b := b) hR hf he hrt h2.2.2 h1 (by omega) h2.2.1 hb ra rb) (fun r J2 M2 R2 h => ⟨h, hm2⟩)
        · exact zW_m (run_37 (a := a) (b := b) hR hf he hrt h2.2.2 h1 (by omega) h2.2.1 hb ra rb) (fun r J2 M2 R2 h => ⟨h, hm2⟩)
