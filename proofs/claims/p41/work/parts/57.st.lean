/-- all but these cells, and but these places -/
noncomputable def kL (cs : List Nat) (fs : List (Nat × Int)) (x : Nat) (j : Int) : Bool := !(cs.any (fun c => x.beq c) || fs.any (fun e => x.beq e.1 && decide (j = e.2)))
theorem kL_38 {cs : List Nat} {fs : List (Nat × Int)} (h1 : ∀ c ∈ cs, c < 38 ∨ 49 < c) (h2 : ∀ e ∈ fs, e.1 < 38 ∨ 49 < e.1) (x : Nat) (j : Int) (a : 38 ≤ x) (b : x ≤ 49) : kL cs fs x j = true := by
  have e1 : cs.any (fun c => x.beq c) = false := by
    rw [List.any_eq_false]
    intro c hc
    rw [beq_f (by have := h1 c hc; omega)]
    decide
  have e2 : fs.any (fun e => x.beq e.1 && decide (j = e.2)) = false := by
    rw [List.any_eq_false]
    intro e he
    rw [beq_f (by have := h2 e he; omega)]
    intro q
    cases q
  unfold kL
  rw [e1, e2]
  rfl
theorem zK_c {k : Nat → Int → Bool} {A J : zA} {a b : Nat} {sp dp n : Int} (h : zK k A J) (hk : ∀ y, k b y = false) : zK k A (zC J a b sp dp n) := fun x y q => by
  unfold zC
  by_cases h1 : x = b
  · rw [h1, hk y] at q; cases q
  · rw [if_neg h1, h x y q]
theorem kM_38 (x : Nat) (j : Int) (h1 : 38 ≤ x) (h2 : x ≤ 49) : kM x j = true := (kS_38 x j h1 h2).2
/-- the answer of the class, and the reference's walk behind it with the same answer -/
noncomputable abbrev stP (X : Nat × (Nat → Int32)) (d kr : Nat) (as : List Value) : zP := fun r J2 M2 R2 => ∃ v : Int, r = some (zi v) ∧ zW X d kr 0 (gEn kr (.ref 50 :: as)) [] J2 M2 R2 (fun r3 J3 M3 R3 => r3 = some (zi v) ∧ Rel X J3 M3 R3)
noncomputable abbrev stL (X : Nat × (Nat → Int32)) (d kr : Nat) (as : List Value) : zP := fun r J2 M2 R2 => ∃ v : Int, r = some (zl v) ∧ zW X d kr 0 (gEn kr (.ref 50 :: as)) [] J2 M2 R2 (fun r3 J3 M3 R3 => r3 = some (zl v) ∧ Rel X J3 M3 R3)
theorem st_count {X : Nat × (Nat → Int32)} {d : Nat} {J M : zA} {R : zR} {what : Int} (hr : Rel X J M R) (hwhat : -2147483648 ≤ what ∧ what < 2147483648)  : zW X (d + 20) 142 0 (gEn 142 [(.ref 0), (zi what)]) [] J M R (stP X (d + 20) 247 [(zi what)]) := by
  have hr0 := hr
  obtain ⟨hR, hG, hY, hD, hP, hC, hAc, hS, hTp, hX, hW⟩ := hr0
  have hRr : zRoR R := zRoR_of hR
  have hY0 := hY
  obtain ⟨y1, y2, y3⟩ := hY0
  have yn := zNn y3
  have hA0 := hAc
  obtain ⟨a1, a2, a3, a4, a5, a6⟩ := hA0
  have hT0 := hTp
  obtain ⟨t1, t2, t3⟩ := hT0
  have hC0 := hC
  obtain ⟨c1, c2, c3, c4, c5, c6⟩ := hC0
  show zW _ _ _ _ [some (.ref 0), some (zi what)] _ _ _ _ _
  refine z_iload1 rfl ?_
  refine z_sw (T := [((0 : Int), 36), ((1 : Int), 44), ((2 : Int), 52), ((3 : Int), 60), ((4 : Int), 68)]) rfl (by omega) rfl (fun q hq1 hxhq1 => ?_) (fun hq1 => ?_)
  · simp only [List.mem_cons, List.not_mem_nil, or_false] at hq1
    rcases hq1 with rfl | rfl | rfl | rfl | rfl
    · have hxhq1 : what = 0 := hxhq1
      refine z_aload0 rfl ?_
      refine z_getR (r := 8) rfl gk_0 (hR _ rm_0_1) ?_
      refine z_getI (v := J 8 2) rfl gk_8 (rfl) ?_
      refine z_iret rfl gr_142 ?_
      refine ⟨_, rfl, ?_⟩
      show zW _ _ _ _ [some (.ref 50), some (zi what)] _ _ _ _ _
      refine z_iload1 gi_247_0 ?_
      refine z_sw (T := [((0 : Int), 36), ((1 : Int), 41), ((2 : Int), 46), ((3 : Int), 51), ((4 : Int), 56)]) gi_247_1 (by omega) rfl (fun q hq2 hxhq2 => ?_) (fun hq2 => ?_)
      · simp only [List.mem_cons, List.not_mem_nil, or_false] at hq2
        rcases hq2 with rfl | rfl | rfl | rfl | rfl
        · have hxhq2 : what = 0 := hxhq2
          refine z_aload0 gi_247_36 ?_
          refine z_getI (v := J 50 1) gi_247_37 gk_50 (rfl) ?_
          refine z_iret gi_247_40 gr_247 ?_
          refine ⟨?_, ?_⟩
          · first | rfl | exact congrArg (fun v => some (zi v)) (by omega) | (exfalso; omega)
          · exact hr
        · have hxhq2 : what = 1 := hxhq2
          refine z_aload0 gi_247_41 ?_
          refine z_getI (v := J 50 15) gi_247_42 gk_50 (rfl) ?_
          refine z_iret gi_247_45 gr_247 ?_
          refine ⟨?_, ?_⟩
          · first | rfl | exact congrArg (fun v => some (zi v)) (by omega) | (exfalso; omega)
          · exact hr
        · have hxhq2 : what = 2 := hxhq2
          refine z_aload0 gi_247_46 ?_
          refine z_getI (v := J 50 8) gi_247_47 gk_50 (rfl) ?_
          refine z_iret gi_247_50 gr_247 ?_
          refine ⟨?_, ?_⟩
          · first | rfl | exact congrArg (fun v => some (zi v)) (by omega) | (exfalso; omega)
          · exact hr
        · have hxhq2 : what = 3 := hxhq2
          refine z_aload0 gi_247_51 ?_
          refine z_getI (v := J 50 54) gi_247_52 gk_50 (rfl) ?_
          refine z_iret gi_247_55 gr_247 ?_
          refine ⟨?_, ?_⟩
          · first | rfl | exact congrArg (fun v => some (zi v)) (by omega) | (exfalso; omega)
          · exact hr
        · have hxhq2 : what = 4 := hxhq2
          refine z_aload0 gi_247_56 ?_
          refine z_getI (v := J 50 56) gi_247_57 gk_50 (rfl) ?_
          refine z_iret gi_247_60 gr_247 ?_
          refine ⟨?_, ?_⟩
          · first | rfl | exact congrArg (fun v => some (zi v)) (by omega) | (exfalso; omega)
          · exact hr
      · have hq2 : ∀ q ∈ [((0 : Int), 36), ((1 : Int), 41), ((2 : Int), 46), ((3 : Int), 51), ((4 : Int), 56)], ¬ what = q.1 := hq2
        have hq2_0 : ¬ what = 0 := hq2 (0, 36) (by simp)
        have hq2_1 : ¬ what = 1 := hq2 (1, 41) (by simp)
        have hq2_2 : ¬ what = 2 := hq2 (2, 46) (by simp)
        have hq2_3 : ¬ what = 3 := hq2 (3, 51) (by simp)
        have hq2_4 : ¬ what = 4 := hq2 (4, 56) (by simp)
        refine z_pushJ gp_247_61 ?_
        refine z_iret gi_247_62 gr_247 ?_
        refine ⟨?_, ?_⟩
        · first | rfl | exact congrArg (fun v => some (zi v)) (by omega) | (exfalso; omega)
        · exact hr
    · have hxhq1 : what = 1 := hxhq1
      refine z_aload0 rfl ?_
      refine z_getR (r := 1) rfl gk_0 (hR _ rm_0_0) ?_
      refine z_getI (v := J 1 1) rfl gk_1 (rfl) ?_
      refine z_iret rfl gr_142 ?_
      refine ⟨_, rfl, ?_⟩
      show zW _ _ _ _ [some (.ref 50), some (zi what)] _ _ _ _ _
      refine z_iload1 gi_247_0 ?_
      refine z_sw (T := [((0 : Int), 36), ((1 : Int), 41), ((2 : Int), 46), ((3 : Int), 51), ((4 : Int), 56)]) gi_247_1 (by omega) rfl (fun q hq2 hxhq2 => ?_) (fun hq2 => ?_)
      · simp only [List.mem_cons, List.not_mem_nil, or_false] at hq2
        rcases hq2 with rfl | rfl | rfl | rfl | rfl
        · have hxhq2 : what = 0 := hxhq2
          refine z_aload0 gi_247_36 ?_
          refine z_getI (v := J 50 1) gi_247_37 gk_50 (rfl) ?_
          refine z_iret gi_247_40 gr_247 ?_
          refine ⟨?_, ?_⟩
          · first | rfl | exact congrArg (fun v => some (zi v)) (by omega) | (exfalso; omega)
          · exact hr
        · have hxhq2 : what = 1 := hxhq2
          refine z_aload0 gi_247_41 ?_
          refine z_getI (v := J 50 15) gi_247_42 gk_50 (rfl) ?_
          refine z_iret gi_247_45 gr_247 ?_
          refine ⟨?_, ?_⟩
          · first | rfl | exact congrArg (fun v => some (zi v)) (by omega) | (exfalso; omega)
          · exact hr
        · have hxhq2 : what = 2 := hxhq2
          refine z_aload0 gi_247_46 ?_
          refine z_getI (v := J 50 8) gi_247_47 gk_50 (rfl) ?_
          refine z_iret gi_247_50 gr_247 ?_
          refine ⟨?_, ?_⟩
          · first | rfl | exact congrArg (fun v => some (zi v)) (by omega) | (exfalso; omega)
          · exact hr
        · have hxhq2 : what = 3 := hxhq2
          refine z_aload0 gi_247_51 ?_
          refine z_getI (v := J 50 54) gi_247_52 gk_50 (rfl) ?_
          refine z_iret gi_247_55 gr_247 ?_
          refine ⟨?_, ?_⟩
          · first | rfl | exact congrArg (fun v => some (zi v)) (by omega) | (exfalso; omega)
          · exact hr
        · have hxhq2 : what = 4 := hxhq2
          refine z_aload0 gi_247_56 ?_
          refine z_getI (v := J 50 56) gi_247_57 gk_50 (rfl) ?_
          refine z_iret gi_247_60 gr_247 ?_
          refine ⟨?_, ?_⟩
          · first | rfl | exact congrArg (fun v => some (zi v)) (by omega) | (exfalso; omega)
          · exact hr
      · have hq2 : ∀ q ∈ [((0 : Int), 36), ((1 : Int), 41), ((2 : Int), 46), ((3 : Int), 51), ((4 : Int), 56)], ¬ what = q.1 := hq2
        have hq2_0 : ¬ what = 0 := hq2 (0, 36) (by simp)
        have hq2_1 : ¬ what = 1 := hq2 (1, 41) (by simp)
        have hq2_2 : ¬ what = 2 := hq2 (2, 46) (by simp)
        have hq2_3 : ¬ what = 3 := hq2 (3, 51) (by simp)
        have hq2_4 : ¬ what = 4 := hq2 (4, 56) (by simp)
        refine z_pushJ gp_247_61 ?_
        refine z_iret gi_247_62 gr_247 ?_
        refine ⟨?_, ?_⟩
        · first | rfl | exact congrArg (fun v => some (zi v)) (by omega) | (exfalso; omega)
        · exact hr
    · have hxhq1 : what = 2 := hxhq1
      refine z_aload0 rfl ?_
      refine z_getR (r := 29) rfl gk_0 (hR _ rm_0_9) ?_
      refine z_getI (v := J 29 5) rfl gk_29 (rfl) ?_
      refine z_iret rfl gr_142 ?_
      refine ⟨_, rfl, ?_⟩
      show zW _ _ _ _ [some (.ref 50), some (zi what)] _ _ _ _ _
      refine z_iload1 gi_247_0 ?_
      refine z_sw (T := [((0 : Int), 36), ((1 : Int), 41), ((2 : Int), 46), ((3 : Int), 51), ((4 : Int), 56)]) gi_247_1 (by omega) rfl (fun q hq2 hxhq2 => ?_) (fun hq2 => ?_)
      · simp only [List.mem_cons, List.not_mem_nil, or_false] at hq2
        rcases hq2 with rfl | rfl | rfl | rfl | rfl
        · have hxhq2 : what = 0 := hxhq2
          refine z_aload0 gi_247_36 ?_
          refine z_getI (v := J 50 1) gi_247_37 gk_50 (rfl) ?_
          refine z_iret gi_247_40 gr_247 ?_
          refine ⟨?_, ?_⟩
          · first | rfl | exact congrArg (fun v => some (zi v)) (by omega) | (exfalso; omega)
          · exact hr
        · have hxhq2 : what = 1 := hxhq2
          refine z_aload0 gi_247_41 ?_
          refine z_getI (v := J 50 15) gi_247_42 gk_50 (rfl) ?_
          refine z_iret gi_247_45 gr_247 ?_
          refine ⟨?_, ?_⟩
          · first | rfl | exact congrArg (fun v => some (zi v)) (by omega) | (exfalso; omega)
          · exact hr
        · have hxhq2 : what = 2 := hxhq2
          refine z_aload0 gi_247_46 ?_
          refine z_getI (v := J 50 8) gi_247_47 gk_50 (rfl) ?_
          refine z_iret gi_247_50 gr_247 ?_
          refine ⟨?_, ?_⟩
          · first | rfl | exact congrArg (fun v => some (zi v)) (by omega) | (exfalso; omega)
          · exact hr
        · have hxhq2 : what = 3 := hxhq2
          refine z_aload0 gi_247_51 ?_
          refine z_getI (v := J 50 54) gi_247_52 gk_50 (rfl) ?_
          refine z_iret gi_247_55 gr_247 ?_
          refine ⟨?_, ?_⟩
          · first | rfl | exact congrArg (fun v => some (zi v)) (by omega) | (exfalso; omega)
          · exact hr
        · have hxhq2 : what = 4 := hxhq2
          refine z_aload0 gi_247_56 ?_
          refine z_getI (v := J 50 56) gi_247_57 gk_50 (rfl) ?_
          refine z_iret gi_247_60 gr_247 ?_
          refine ⟨?_, ?_⟩
          · first | rfl | exact congrArg (fun v => some (zi v)) (by omega) | (exfalso; omega)
          · exact hr
      · have hq2 : ∀ q ∈ [((0 : Int), 36), ((1 : Int), 41), ((2 : Int), 46), ((3 : Int), 51), ((4 : Int), 56)], ¬ what = q.1 := hq2
        have hq2_0 : ¬ what = 0 := hq2 (0, 36) (by simp)
        have hq2_1 : ¬ what = 1 := hq2 (1, 41) (by simp)
        have hq2_2 : ¬ what = 2 := hq2 (2, 46) (by simp)
        have hq2_3 : ¬ what = 3 := hq2 (3, 51) (by simp)
        have hq2_4 : ¬ what = 4 := hq2 (4, 56) (by simp)
        refine z_pushJ gp_247_61 ?_
        refine z_iret gi_247_62 gr_247 ?_
        refine ⟨?_, ?_⟩
        · first | rfl | exact congrArg (fun v => some (zi v)) (by omega) | (exfalso; omega)
        · exact hr
    · have hxhq1 : what = 3 := hxhq1
      refine z_aload0 rfl ?_
      refine z_getR (r := 34) rfl gk_0 (hR _ rm_0_10) ?_
      refine z_getI (v := J 34 1) rfl gk_34 (rfl) ?_
      refine z_iret rfl gr_142 ?_
      refine ⟨_, rfl, ?_⟩
      show zW _ _ _ _ [some (.ref 50), some (zi what)] _ _ _ _ _
      refine z_iload1 gi_247_0 ?_
      refine z_sw (T := [((0 : Int), 36), ((1 : Int), 41), ((2 : Int), 46), ((3 : Int), 51), ((4 : Int), 56)]) gi_247_1 (by omega) rfl (fun q hq2 hxhq2 => ?_) (fun hq2 => ?_)
      · simp only [List.mem_cons, List.not_mem_nil, or_false] at hq2
        rcases hq2 with rfl | rfl | rfl | rfl | rfl
        · have hxhq2 : what = 0 := hxhq2
          refine z_aload0 gi_247_36 ?_
          refine z_getI (v := J 50 1) gi_247_37 gk_50 (rfl) ?_
          refine z_iret gi_247_40 gr_247 ?_
          refine ⟨?_, ?_⟩
          · first | rfl | exact congrArg (fun v => some (zi v)) (by omega) | (exfalso; omega)
          · exact hr
        · have hxhq2 : what = 1 := hxhq2
          refine z_aload0 gi_247_41 ?_
          refine z_getI (v := J 50 15) gi_247_42 gk_50 (rfl) ?_
          refine z_iret gi_247_45 gr_247 ?_
          refine ⟨?_, ?_⟩
          · first | rfl | exact congrArg (fun v => some (zi v)) (by omega) | (exfalso; omega)
          · exact hr
        · have hxhq2 : what = 2 := hxhq2
          refine z_aload0 gi_247_46 ?_
          refine z_getI (v := J 50 8) gi_247_47 gk_50 (rfl) ?_
          refine z_iret gi_247_50 gr_247 ?_
          refine ⟨?_, ?_⟩
          · first | rfl | exact congrArg (fun v => some (zi v)) (by omega) | (exfalso; omega)
          · exact hr
        · have hxhq2 : what = 3 := hxhq2
          refine z_aload0 gi_247_51 ?_
          refine z_getI (v := J 50 54) gi_247_52 gk_50 (rfl) ?_
          refine z_iret gi_247_55 gr_247 ?_
          refine ⟨?_, ?_⟩
          · first | rfl | exact congrArg (fun v => some (zi v)) (by omega) | (exfalso; omega)
          · exact hr
        · have hxhq2 : what = 4 := hxhq2
          refine z_aload0 gi_247_56 ?_
          refine z_getI (v := J 50 56) gi_247_57 gk_50 (rfl) ?_
          refine z_iret gi_247_60 gr_247 ?_
          refine ⟨?_, ?_⟩
          · first | rfl | exact congrArg (fun v => some (zi v)) (by omega) | (exfalso; omega)
          · exact hr
      · have hq2 : ∀ q ∈ [((0 : Int), 36), ((1 : Int), 41), ((2 : Int), 46), ((3 : Int), 51), ((4 : Int), 56)], ¬ what = q.1 := hq2
        have hq2_0 : ¬ what = 0 := hq2 (0, 36) (by simp)
        have hq2_1 : ¬ what = 1 := hq2 (1, 41) (by simp)
        have hq2_2 : ¬ what = 2 := hq2 (2, 46) (by simp)
        have hq2_3 : ¬ what = 3 := hq2 (3, 51) (by simp)
        have hq2_4 : ¬ what = 4 := hq2 (4, 56) (by simp)
        refine z_pushJ gp_247_61 ?_
        refine z_iret gi_247_62 gr_247 ?_
        refine ⟨?_, ?_⟩
        · first | rfl | exact congrArg (fun v => some (zi v)) (by omega) | (exfalso; omega)
        · exact hr
    · have hxhq1 : what = 4 := hxhq1
      refine z_aload0 rfl ?_
      refine z_getR (r := 34) rfl gk_0 (hR _ rm_0_10) ?_
      refine z_getI (v := J 34 3) rfl gk_34 (rfl) ?_
      refine z_iret rfl gr_142 ?_
      refine ⟨_, rfl, ?_⟩
      show zW _ _ _ _ [some (.ref 50), some (zi what)] _ _ _ _ _
      refine z_iload1 gi_247_0 ?_
      refine z_sw (T := [((0 : Int), 36), ((1 : Int), 41), ((2 : Int), 46), ((3 : Int), 51), ((4 : Int), 56)]) gi_247_1 (by omega) rfl (fun q hq2 hxhq2 => ?_) (fun hq2 => ?_)
      · simp only [List.mem_cons, List.not_mem_nil, or_false] at hq2
        rcases hq2 with rfl | rfl | rfl | rfl | rfl
        · have hxhq2 : what = 0 := hxhq2
          refine z_aload0 gi_247_36 ?_
          refine z_getI (v := J 50 1) gi_247_37 gk_50 (rfl) ?_
          refine z_iret gi_247_40 gr_247 ?_
          refine ⟨?_, ?_⟩
          · first | rfl | exact congrArg (fun v => some (zi v)) (by omega) | (exfalso; omega)
          · exact hr
        · have hxhq2 : what = 1 := hxhq2
          refine z_aload0 gi_247_41 ?_
          refine z_getI (v := J 50 15) gi_247_42 gk_50 (rfl) ?_
          refine z_iret gi_247_45 gr_247 ?_
          refine ⟨?_, ?_⟩
          · first | rfl | exact congrArg (fun v => some (zi v)) (by omega) | (exfalso; omega)
          · exact hr
        · have hxhq2 : what = 2 := hxhq2
          refine z_aload0 gi_247_46 ?_
          refine z_getI (v := J 50 8) gi_247_47 gk_50 (rfl) ?_
          refine z_iret gi_247_50 gr_247 ?_
          refine ⟨?_, ?_⟩
          · first | rfl | exact congrArg (fun v => some (zi v)) (by omega) | (exfalso; omega)
          · exact hr
        · have hxhq2 : what = 3 := hxhq2
          refine z_aload0 gi_247_51 ?_
          refine z_getI (v := J 50 54) gi_247_52 gk_50 (rfl) ?_
          refine z_iret gi_247_55 gr_247 ?_
          refine ⟨?_, ?_⟩
          · first | rfl | exact congrArg (fun v => some (zi v)) (by omega) | (exfalso; omega)
          · exact hr
        · have hxhq2 : what = 4 := hxhq2
          refine z_aload0 gi_247_56 ?_
          refine z_getI (v := J 50 56) gi_247_57 gk_50 (rfl) ?_
          refine z_iret gi_247_60 gr_247 ?_
          refine ⟨?_, ?_⟩
          · first | rfl | exact congrArg (fun v => some (zi v)) (by omega) | (exfalso; omega)
          · exact hr
      · have hq2 : ∀ q ∈ [((0 : Int), 36), ((1 : Int), 41), ((2 : Int), 46), ((3 : Int), 51), ((4 : Int), 56)], ¬ what = q.1 := hq2
        have hq2_0 : ¬ what = 0 := hq2 (0, 36) (by simp)
        have hq2_1 : ¬ what = 1 := hq2 (1, 41) (by simp)
        have hq2_2 : ¬ what = 2 := hq2 (2, 46) (by simp)
        have hq2_3 : ¬ what = 3 := hq2 (3, 51) (by simp)
        have hq2_4 : ¬ what = 4 := hq2 (4, 56) (by simp)
        refine z_pushJ gp_247_61 ?_
        refine z_iret gi_247_62 gr_247 ?_
        refine ⟨?_, ?_⟩
        · first | rfl | exact congrArg (fun v => some (zi v)) (by omega) | (exfalso; omega)
        · exact hr
  · have hq1 : ∀ q ∈ [((0 : Int), 36), ((1 : Int), 44), ((2 : Int), 52), ((3 : Int), 60), ((4 : Int), 68)], ¬ what = q.1 := hq1
    have hq1_0 : ¬ what = 0 := hq1 (0, 36) (by simp)
    have hq1_1 : ¬ what = 1 := hq1 (1, 44) (by simp)
    have hq1_2 : ¬ what = 2 := hq1 (2, 52) (by simp)
    have hq1_3 : ¬ what = 3 := hq1 (3, 60) (by simp)
    have hq1_4 : ¬ what = 4 := hq1 (4, 68) (by simp)
    refine z_pushJ gp_142_76 ?_
    refine z_iret rfl gr_142 ?_
    refine ⟨_, rfl, ?_⟩
    show zW _ _ _ _ [some (.ref 50), some (zi what)] _ _ _ _ _
    refine z_iload1 gi_247_0 ?_
    refine z_sw (T := [((0 : Int), 36), ((1 : Int), 41), ((2 : Int), 46), ((3 : Int), 51), ((4 : Int), 56)]) gi_247_1 (by omega) rfl (fun q hq2 hxhq2 => ?_) (fun hq2 => ?_)
    · simp only [List.mem_cons, List.not_mem_nil, or_false] at hq2
      rcases hq2 with rfl | rfl | rfl | rfl | rfl
      · have hxhq2 : what = 0 := hxhq2
        refine z_aload0 gi_247_36 ?_
        refine z_getI (v := J 50 1) gi_247_37 gk_50 (rfl) ?_
        refine z_iret gi_247_40 gr_247 ?_
        refine ⟨?_, ?_⟩
        · first | rfl | exact congrArg (fun v => some (zi v)) (by omega) | (exfalso; omega)
        · exact hr
      · have hxhq2 : what = 1 := hxhq2
        refine z_aload0 gi_247_41 ?_
        refine z_getI (v := J 50 15) gi_247_42 gk_50 (rfl) ?_
        refine z_iret gi_247_45 gr_247 ?_
        refine ⟨?_, ?_⟩
        · first | rfl | exact congrArg (fun v => some (zi v)) (by omega) | (exfalso; omega)
        · exact hr
      · have hxhq2 : what = 2 := hxhq2
        refine z_aload0 gi_247_46 ?_
        refine z_getI (v := J 50 8) gi_247_47 gk_50 (rfl) ?_
        refine z_iret gi_247_50 gr_247 ?_
        refine ⟨?_, ?_⟩
        · first | rfl | exact congrArg (fun v => some (zi v)) (by omega) | (exfalso; omega)
        · exact hr
      · have hxhq2 : what = 3 := hxhq2
        refine z_aload0 gi_247_51 ?_
        refine z_getI (v := J 50 54) gi_247_52 gk_50 (rfl) ?_
        refine z_iret gi_247_55 gr_247 ?_
        refine ⟨?_, ?_⟩
        · first | rfl | exact congrArg (fun v => some (zi v)) (by omega) | (exfalso; omega)
        · exact hr
      · have hxhq2 : what = 4 := hxhq2
        refine z_aload0 gi_247_56 ?_
        refine z_getI (v := J 50 56) gi_247_57 gk_50 (rfl) ?_
        refine z_iret gi_247_60 gr_247 ?_
        refine ⟨?_, ?_⟩
        · first | rfl | exact congrArg (fun v => some (zi v)) (by omega) | (exfalso; omega)
        · exact hr
    · have hq2 : ∀ q ∈ [((0 : Int), 36), ((1 : Int), 41), ((2 : Int), 46), ((3 : Int), 51), ((4 : Int), 56)], ¬ what = q.1 := hq2
      have hq2_0 : ¬ what = 0 := hq2 (0, 36) (by simp)
      have hq2_1 : ¬ what = 1 := hq2 (1, 41) (by simp)
      have hq2_2 : ¬ what = 2 := hq2 (2, 46) (by simp)
      have hq2_3 : ¬ what = 3 := hq2 (3, 51) (by simp)
      have hq2_4 : ¬ what = 4 := hq2 (4, 56) (by simp)
      refine z_pushJ gp_247_61 ?_
      refine z_iret gi_247_62 gr_247 ?_
      refine ⟨?_, ?_⟩
      · first | rfl | exact congrArg (fun v => some (zi v)) (by omega) | (exfalso; omega)
      · exact hr
theorem st_trace {X : Nat × (Nat → Int32)} {d : Nat} {J M : zA} {R : zR} {i : Int} (hr : Rel X J M R) (hi : -2147483648 ≤ i ∧ i < 2147483648)  : zW X (d + 20) 135 0 (gEn 135 [(.ref 0), (zi i)]) [] J M R (stP X (d + 20) 232 [(zi i)]) := by
  have hr0 := hr
  obtain ⟨hR, hG, hY, hD, hP, hC, hAc, hS, hTp, hX, hW⟩ := hr0
  have hRr : zRoR R := zRoR_of hR
  have hA0 := hAc
  obtain ⟨a1, a2, a3, a4, a5, a6⟩ := hA0
  show zW _ _ _ _ [some (.ref 0), some (zi i)] _ _ _ _ _
  refine z_aload0 rfl ?_
  refine z_getR (r := 34) rfl gk_0 (hR _ rm_0_10) ?_
  refine z_iload1 rfl ?_
  refine z_cV1 rfl gk_34 go_6 (Nat.le_of_ble_eq_true rfl) gc_6_RI ?_
  refine z_iload1 rfl ?_
  refine z_if_lt rfl (by omega) (fun h1 => ?_) (fun h1 => ?_)
  · refine z_pushJ gp_6_27 ?_
    refine z_iret gi_6_28 gr_6 ?_
    show zW _ _ _ _ _ _ _ _ _ _
    refine z_iret gi_135_8 gr_135 ?_
    refine ⟨_, rfl, ?_⟩
    show zW _ _ _ _ [some (.ref 50), some (zi i)] _ _ _ _ _
    refine z_iload1 gi_232_0 ?_
    refine z_if_lt gi_232_1 (by omega) (fun h2 => ?_) (fun h2 => ?_)
    · refine z_pushJ gp_232_27 ?_
      refine z_iret gi_232_28 gr_232 ?_
      refine ⟨?_, ?_⟩
      · first | rfl | exact congrArg (fun v => some (zi v)) (by omega) | (exfalso; omega)
      · exact hr
    · refine z_iload1 gi_232_4 ?_
      refine z_aload0 gi_232_5 ?_
      refine z_getI (v := J 50 56) gi_232_6 gk_50 (rfl) ?_
      refine z_icmp_ge gi_232_9 (by omega) (by omega) (fun h3 => ?_) (fun h3 => ?_)
      · refine z_pushJ gp_232_27 ?_
        refine z_iret gi_232_28 gr_232 ?_
        refine ⟨?_, ?_⟩
        · first | rfl | exact congrArg (fun v => some (zi v)) (by omega) | (exfalso; omega)
        · exact hr
      · refine z_iload1 gi_232_12 ?_
        refine z_pushJ gp_232_13 ?_
        refine z_icmp_ge gi_232_15 (by omega) zr_24 (fun h4 => ?_) (fun h4 => ?_)
        · refine z_pushJ gp_232_27 ?_
          refine z_iret gi_232_28 gr_232 ?_
          refine ⟨?_, ?_⟩
          · first | rfl | exact congrArg (fun v => some (zi v)) (by omega) | (exfalso; omega)
          · exact hr
        · refine z_aload0 gi_232_18 ?_
          refine z_getR (r := 82) gi_232_19 gk_50 (hRr _ rm_50_57 (by decide)) ?_
          refine z_iload1 gi_232_22 ?_
          refine z_iald (v := J 82 i) gi_232_23 gk_82 (by decide) (by omega) (rfl) ?_
          refine z_goto gi_232_24 ?_
          refine z_iret gi_232_28 gr_232 ?_
          refine ⟨?_, ?_⟩
          · first | rfl | exact congrArg (fun v => some (zi v)) (by omega) | (exfalso; omega)
          · exact hr
  · refine z_iload1 rfl ?_
    refine z_aload0 rfl ?_
    refine z_getI (v := J 34 3) rfl gk_34 (rfl) ?_
    refine z_icmp_ge rfl (by omega) (by omega) (fun h2 => ?_) (fun h2 => ?_)
    · refine z_pushJ gp_6_27 ?_
      refine z_iret gi_6_28 gr_6 ?_
      show zW _ _ _ _ _ _ _ _ _ _
      refine z_iret gi_135_8 gr_135 ?_
      refine ⟨_, rfl, ?_⟩
      show zW _ _ _ _ [some (.ref 50), some (zi i)] _ _ _ _ _
      refine z_iload1 gi_232_0 ?_
      refine z_if_lt gi_232_1 (by omega) (fun h3 => ?_) (fun h3 => ?_)
      · refine z_pushJ gp_232_27 ?_
        refine z_iret gi_232_28 gr_232 ?_
        refine ⟨?_, ?_⟩
        · first | rfl | exact congrArg (fun v => some (zi v)) (by omega) | (exfalso; omega)
        · exact hr
      · refine z_iload1 gi_232_4 ?_
        refine z_aload0 gi_232_5 ?_
        refine z_getI (v := J 50 56) gi_232_6 gk_50 (rfl) ?_
        refine z_icmp_ge gi_232_9 (by omega) (by omega) (fun h4 => ?_) (fun h4 => ?_)
        · refine z_pushJ gp_232_27 ?_
          refine z_iret gi_232_28 gr_232 ?_
          refine ⟨?_, ?_⟩
          · first | rfl | exact congrArg (fun v => some (zi v)) (by omega) | (exfalso; omega)
          · exact hr
        · refine z_iload1 gi_232_12 ?_
          refine z_pushJ gp_232_13 ?_
          refine z_icmp_ge gi_232_15 (by omega) zr_24 (fun h5 => ?_) (fun h5 => ?_)
          · refine z_pushJ gp_232_27 ?_
            refine z_iret gi_232_28 gr_232 ?_
            refine ⟨?_, ?_⟩
            · first | rfl | exact congrArg (fun v => some (zi v)) (by omega) | (exfalso; omega)
            · exact hr
          · refine z_aload0 gi_232_18 ?_
            refine z_getR (r := 82) gi_232_19 gk_50 (hRr _ rm_50_57 (by decide)) ?_
            refine z_iload1 gi_232_22 ?_
            refine z_iald (v := J 82 i) gi_232_23 gk_82 (by decide) (by omega) (rfl) ?_
            refine z_goto gi_232_24 ?_
            refine z_iret gi_232_28 gr_232 ?_
            refine ⟨?_, ?_⟩
            · first | rfl | exact congrArg (fun v => some (zi v)) (by omega) | (exfalso; omega)
            · exact hr
    · refine z_iload1 rfl ?_
      refine z_pushJ gp_6_13 ?_
      refine z_icmp_ge rfl (by omega) zr_24 (fun h3 => ?_) (fun h3 => ?_)
      · refine z_pushJ gp_6_27 ?_
        refine z_iret gi_6_28 gr_6 ?_
        show zW _ _ _ _ _ _ _ _ _ _
        refine z_iret gi_135_8 gr_135 ?_
        refine ⟨_, rfl, ?_⟩
        show zW _ _ _ _ [some (.ref 50), some (zi i)] _ _ _ _ _
        refine z_iload1 gi_232_0 ?_
        refine z_if_lt gi_232_1 (by omega) (fun h4 => ?_) (fun h4 => ?_)
        · refine z_pushJ gp_232_27 ?_
          refine z_iret gi_232_28 gr_232 ?_
          refine ⟨?_, ?_⟩
          · first | rfl | exact congrArg (fun v => some (zi v)) (by omega) | (exfalso; omega)
          · exact hr
        · refine z_iload1 gi_232_4 ?_
          refine z_aload0 gi_232_5 ?_
          refine z_getI (v := J 50 56) gi_232_6 gk_50 (rfl) ?_
          refine z_icmp_ge gi_232_9 (by omega) (by omega) (fun h5 => ?_) (fun h5 => ?_)
          · refine z_pushJ gp_232_27 ?_
            refine z_iret gi_232_28 gr_232 ?_
            refine ⟨?_, ?_⟩
            · first | rfl | exact congrArg (fun v => some (zi v)) (by omega) | (exfalso; omega)
            · exact hr
          · refine z_iload1 gi_232_12 ?_
            refine z_pushJ gp_232_13 ?_
            refine z_icmp_ge gi_232_15 (by omega) zr_24 (fun h6 => ?_) (fun h6 => ?_)
            · refine z_pushJ gp_232_27 ?_
              refine z_iret gi_232_28 gr_232 ?_
              refine ⟨?_, ?_⟩
              · first | rfl | exact congrArg (fun v => some (zi v)) (by omega) | (exfalso; omega)
              · exact hr
            · refine z_aload0 gi_232_18 ?_
              refine z_getR (r := 82) gi_232_19 gk_50 (hRr _ rm_50_57 (by decide)) ?_
              refine z_iload1 gi_232_22 ?_
              refine z_iald (v := J 82 i) gi_232_23 gk_82 (by decide) (by omega) (rfl) ?_
              refine z_goto gi_232_24 ?_
              refine z_iret gi_232_28 gr_232 ?_
              refine ⟨?_, ?_⟩
              · first | rfl | exact congrArg (fun v => some (zi v)) (by omega) | (exfalso; omega)
              · exact hr
      · refine z_aload0 rfl ?_
        refine z_getR (r := 36) rfl gk_34 (hR _ rm_34_2) ?_
        refine z_iload1 rfl ?_
        refine z_iald (v := J 36 i) rfl gk_36 (by decide) (by omega) (rfl) ?_
        refine z_goto rfl ?_
        refine z_iret gi_6_28 gr_6 ?_
        show zW _ _ _ _ _ _ _ _ _ _
        refine z_iret gi_135_8 gr_135 ?_
        refine ⟨_, rfl, ?_⟩
        show zW _ _ _ _ [some (.ref 50), some (zi i)] _ _ _ _ _
        refine z_iload1 gi_232_0 ?_
        refine z_if_lt gi_232_1 (by omega) (fun h4 => ?_) (fun h4 => ?_)
        · refine z_pushJ gp_232_27 ?_
          refine z_iret gi_232_28 gr_232 ?_
          refine ⟨?_, ?_⟩
          · first | exact congrArg (fun v => some (zi v)) (a6 i (by omega) (by omega) (by omega)).symm | (exfalso; omega)
          · exact hr
        · refine z_iload1 gi_232_4 ?_
          refine z_aload0 gi_232_5 ?_
          refine z_getI (v := J 50 56) gi_232_6 gk_50 (rfl) ?_
          refine z_icmp_ge gi_232_9 (by omega) (by omega) (fun h5 => ?_) (fun h5 => ?_)
          · refine z_pushJ gp_232_27 ?_
            refine z_iret gi_232_28 gr_232 ?_
            refine ⟨?_, ?_⟩
            · first | exact congrArg (fun v => some (zi v)) (a6 i (by omega) (by omega) (by omega)).symm | (exfalso; omega)
            · exact hr
          · refine z_iload1 gi_232_12 ?_
            refine z_pushJ gp_232_13 ?_
            refine z_icmp_ge gi_232_15 (by omega) zr_24 (fun h6 => ?_) (fun h6 => ?_)
            · refine z_pushJ gp_232_27 ?_
              refine z_iret gi_232_28 gr_232 ?_
              refine ⟨?_, ?_⟩
              · first | exact congrArg (fun v => some (zi v)) (a6 i (by omega) (by omega) (by omega)).symm | (exfalso; omega)
              · exact hr
            · refine z_aload0 gi_232_18 ?_
              refine z_getR (r := 82) gi_232_19 gk_50 (hRr _ rm_50_57 (by decide)) ?_
              refine z_iload1 gi_232_22 ?_
              refine z_iald (v := J 82 i) gi_232_23 gk_82 (by decide) (by omega) (rfl) ?_
              refine z_goto gi_232_24 ?_
              refine z_iret gi_232_28 gr_232 ?_
              refine ⟨?_, ?_⟩
              · first | exact congrArg (fun v => some (zi v)) (a6 i (by omega) (by omega) (by omega)).symm | (exfalso; omega)
              · exact hr
theorem RelA_body {J : zA} {k : Int} (r : RelA J) (h : J 34 1 < 50) (hk : 0 ≤ k ∧ k ≤ 7) : RelA (zU (zU (zU (zU J 35 (J 34 1) k) 34 1 (J 34 1 + 1)) 81 (J 50 54) k) 50 54 (J 50 54 + 1)) := by
  obtain ⟨a1, a2, a3, a4, a5, a6⟩ := r
  refine ⟨?_, ?_, a3, a4, fun i i1 i2 => ?_, a6⟩
  · show J 34 1 + 1 = J 50 54 + 1; omega
  · show 0 ≤ J 34 1 + 1 ∧ J 34 1 + 1 ≤ 50; omega
  · have i2 : i < J 34 1 + 1 := i2
    show (if i = J 34 1 then k else J 35 i) = (if i = J 50 54 then k else J 81 i) ∧ (0 ≤ (if i = J 34 1 then k else J 35 i) ∧ (if i = J 34 1 then k else J 35 i) ≤ 7)
    rw [← a1]
    by_cases e : i = J 34 1
    · rw [if_pos e, if_pos e]; exact ⟨rfl, hk⟩
    · rw [if_neg e, if_neg e]; exact a5 i i1 (by omega)
theorem RelS_body {k l : Nat → Int → Bool} {J J2 M M2 : zA} (h : zK k J J2) (hm : zK l M M2) (c : ∀ x (j : Int), 38 ≤ x → x ≤ 49 → k x j = true ∧ l x j = true) (d : ∀ p : Int, k 83 p = true ∧ k 84 p = true ∧ l 85 p = true) (c1 : J 34 1 ≤ J2 34 1) (r : RelS J M) : RelS J2 M2 := by
  intro s s1 s2
  have r1 := r s s1 s2
  have e38 : ∀ j, J2 (38 + 2 * s.toNat) j = J (38 + 2 * s.toNat) j := fun j => h _ j (c _ j (by omega) (by omega)).1
  have e39 : ∀ j, M2 (39 + 2 * s.toNat) j = M (39 + 2 * s.toNat) j := fun j => hm _ j (c _ j (by omega) (by omega)).2
  have e83 : ∀ p, J2 83 p = J 83 p := fun p => h 83 p (d p).1
  have e84 : ∀ p, J2 84 p = J 84 p := fun p => h 84 p (d p).2.1
  have e85 : ∀ p, M2 85 p = M 85 p := fun p => hm 85 p (d p).2.2
  unfold RelS1 cH at r1 ⊢
  simp only [e38, e39, e83, e84, e85]
  obtain ⟨b1, b2, b3, b4, b5, b6⟩ := r1
  exact ⟨b1, b2, b3, b4, fun q => ⟨(b5 q).1, by have := (b5 q).2; omega⟩, b6⟩
theorem st_body {X : Nat × (Nat → Int32)} {d : Nat} {J M : zA} {R : zR} {k : Int} (hr : Rel X J M R) (hk : -2147483648 ≤ k ∧ k < 2147483648)  : zW X (d + 20) 133 0 (gEn 133 [(.ref 0), (zi k)]) [] J M R (stP X (d + 20) 233 [(zi k)]) := by
  have hr0 := hr
  obtain ⟨hR, hG, hY, hD, hP, hC, hAc, hS, hTp, hX, hW⟩ := hr0
  have hRr : zRoR R := zRoR_of hR
  have hA0 := hAc
  obtain ⟨a1, a2, a3, a4, a5, a6⟩ := hA0
  show zW _ _ _ _ [some (.ref 0), some (zi k)] _ _ _ _ _
  refine z_iload1 rfl ?_
  refine z_cS1 rfl (Nat.le_of_ble_eq_true rfl) gc_1_I ?_
  refine z_iload0 gi_1_0 ?_
  refine z_if_lt gi_1_1 (by omega) (fun h1 => ?_) (fun h1 => ?_)
  · refine z_pushJ gp_1_14 ?_
    refine z_bret0 gi_1_15 gr_1 ?_
    show zW _ _ _ _ _ _ _ _ _ _
    refine z_if_neF gi_133_4 zr_0 (by decide) ?_
    refine z_pushJ gp_133_7 ?_
    refine z_iret gi_133_8 gr_133 ?_
    refine ⟨_, rfl, ?_⟩
    show zW _ _ _ _ [some (.ref 50), some (zi k)] _ _ _ _ _
    refine z_iload1 gi_233_0 ?_
    refine z_pushJ gp_233_1 ?_
    refine z_pushJ gp_233_2 ?_
    refine z_cS3 gi_233_4 (Nat.le_of_ble_eq_true rfl) gc_148_III ?_
    refine z_iload0 gi_148_0 ?_
    refine z_iload1 gi_148_1 ?_
    refine z_icmp_lt gi_148_2 (by omega) zr_0 (fun h2 => ?_) (fun h2 => ?_)
    · refine z_pushJ gp_148_14 ?_
      refine z_bret0 gi_148_15 gr_148 ?_
      show zW _ _ _ _ _ _ _ _ _ _
      refine z_if_neF gi_233_7 zr_0 (by decide) ?_
      refine z_pushJ gp_233_10 ?_
      refine z_iret gi_233_11 gr_233 ?_
      refine ⟨?_, ?_⟩
      · first | rfl | exact congrArg (fun v => some (zi v)) (by omega) | (exfalso; omega)
      · exact hr
    · refine z_iload0 gi_148_5 ?_
      refine z_iload2 gi_148_6 ?_
      refine z_icmp_gt gi_148_7 (by omega) zr_7 (fun h3 => ?_) (fun h3 => ?_)
      · refine z_pushJ gp_148_14 ?_
        refine z_bret0 gi_148_15 gr_148 ?_
        show zW _ _ _ _ _ _ _ _ _ _
        refine z_if_neF gi_233_7 zr_0 (by decide) ?_
        refine z_pushJ gp_233_10 ?_
        refine z_iret gi_233_11 gr_233 ?_
        refine ⟨?_, ?_⟩
        · first | rfl | exact congrArg (fun v => some (zi v)) (by omega) | (exfalso; omega)
        · exact hr
      · refine z_pushJ gp_148_10 ?_
        refine z_goto gi_148_11 ?_
        refine z_bret1 gi_148_15 gr_148 ?_
        show zW _ _ _ _ _ _ _ _ _ _
        refine z_if_neT gi_233_7 zr_1 (by decide) ?_
        refine z_aload0 gi_233_12 ?_
        refine z_getI (v := J 50 54) gi_233_13 gk_50 (rfl) ?_
        refine z_pushJ gp_233_16 ?_
        refine z_icmp_ne gi_233_18 (by omega) zr_50 (fun h4 => ?_) (fun h4 => ?_)
        · refine z_aload0 gi_233_24 ?_
          refine z_getR (r := 81) gi_233_25 gk_50 (hRr _ rm_50_55 (by decide)) ?_
          refine z_aload0 gi_233_28 ?_
          refine z_getI (v := J 50 54) gi_233_29 gk_50 (rfl) ?_
          refine z_iload1 gi_233_32 ?_
          refine z_iast (e := k) gi_233_33 gk_81 (by decide) (by omega) rfl ?_
          refine z_aload0 gi_233_34 ?_
          refine z_dup gi_233_35 rfl ?_
          refine z_getI (v := J 50 54) gi_233_36 gk_50 ((zU_n (by decide)).trans (rfl)) ?_
          refine z_pushJ gp_233_39 ?_
          refine z_iadd (e := (J 50 54) + 1) gi_233_40 rfl ?_
          refine z_putI (y := 54) gi_233_41 rfl gk_50 ?_
          refine z_aload0 gi_233_44 ?_
          refine z_getI (v := (J 50 54) + 1) gi_233_45 gk_50 (zU_e) ?_
          refine z_pushJ gp_233_48 ?_
          refine z_isub (e := (J 50 54) + 1 - 1) gi_233_49 rfl ?_
          refine z_iret gi_233_50 gr_233 ?_
          refine ⟨?_, ?_⟩
          · first | rfl | exact congrArg (fun v => some (zi v)) (by omega) | (exfalso; omega)
          · exfalso
            omega
        · refine z_pushJ gp_233_21 ?_
          refine z_iret gi_233_23 gr_233 ?_
          refine ⟨?_, ?_⟩
          · first | rfl | exact congrArg (fun v => some (zi v)) (by omega) | (exfalso; omega)
          · exact hr
  · refine z_iload0 gi_1_4 ?_
    refine z_pushJ gp_1_5 ?_
    refine z_icmp_ge gi_1_7 (by omega) zr_8 (fun h2 => ?_) (fun h2 => ?_)
    · refine z_pushJ gp_1_14 ?_
      refine z_bret0 gi_1_15 gr_1 ?_
      show zW _ _ _ _ _ _ _ _ _ _
      refine z_if_neF gi_133_4 zr_0 (by decide) ?_
      refine z_pushJ gp_133_7 ?_
      refine z_iret gi_133_8 gr_133 ?_
      refine ⟨_, rfl, ?_⟩
      show zW _ _ _ _ [some (.ref 50), some (zi k)] _ _ _ _ _
      refine z_iload1 gi_233_0 ?_
      refine z_pushJ gp_233_1 ?_
      refine z_pushJ gp_233_2 ?_
      refine z_cS3 gi_233_4 (Nat.le_of_ble_eq_true rfl) gc_148_III ?_
      refine z_iload0 gi_148_0 ?_
      refine z_iload1 gi_148_1 ?_
      refine z_icmp_lt gi_148_2 (by omega) zr_0 (fun h3 => ?_) (fun h3 => ?_)
      · refine z_pushJ gp_148_14 ?_
        refine z_bret0 gi_148_15 gr_148 ?_
        show zW _ _ _ _ _ _ _ _ _ _
        refine z_if_neF gi_233_7 zr_0 (by decide) ?_
        refine z_pushJ gp_233_10 ?_
        refine z_iret gi_233_11 gr_233 ?_
        refine ⟨?_, ?_⟩
        · first | rfl | exact congrArg (fun v => some (zi v)) (by omega) | (exfalso; omega)
        · exact hr
      · refine z_iload0 gi_148_5 ?_
        refine z_iload2 gi_148_6 ?_
        refine z_icmp_gt gi_148_7 (by omega) zr_7 (fun h4 => ?_) (fun h4 => ?_)
        · refine z_pushJ gp_148_14 ?_
          refine z_bret0 gi_148_15 gr_148 ?_
          show zW _ _ _ _ _ _ _ _ _ _
          refine z_if_neF gi_233_7 zr_0 (by decide) ?_
          refine z_pushJ gp_233_10 ?_
          refine z_iret gi_233_11 gr_233 ?_
          refine ⟨?_, ?_⟩
          · first | rfl | exact congrArg (fun v => some (zi v)) (by omega) | (exfalso; omega)
          · exact hr
        · refine z_pushJ gp_148_10 ?_
          refine z_goto gi_148_11 ?_
          refine z_bret1 gi_148_15 gr_148 ?_
          show zW _ _ _ _ _ _ _ _ _ _
          refine z_if_neT gi_233_7 zr_1 (by decide) ?_
          refine z_aload0 gi_233_12 ?_
          refine z_getI (v := J 50 54) gi_233_13 gk_50 (rfl) ?_
          refine z_pushJ gp_233_16 ?_
          refine z_icmp_ne gi_233_18 (by omega) zr_50 (fun h5 => ?_) (fun h5 => ?_)
          · refine z_aload0 gi_233_24 ?_
            refine z_getR (r := 81) gi_233_25 gk_50 (hRr _ rm_50_55 (by decide)) ?_
            refine z_aload0 gi_233_28 ?_
            refine z_getI (v := J 50 54) gi_233_29 gk_50 (rfl) ?_
            refine z_iload1 gi_233_32 ?_
            refine z_iast (e := k) gi_233_33 gk_81 (by decide) (by omega) rfl ?_
            refine z_aload0 gi_233_34 ?_
            refine z_dup gi_233_35 rfl ?_
            refine z_getI (v := J 50 54) gi_233_36 gk_50 ((zU_n (by decide)).trans (rfl)) ?_
            refine z_pushJ gp_233_39 ?_
            refine z_iadd (e := (J 50 54) + 1) gi_233_40 rfl ?_
            refine z_putI (y := 54) gi_233_41 rfl gk_50 ?_
            refine z_aload0 gi_233_44 ?_
            refine z_getI (v := (J 50 54) + 1) gi_233_45 gk_50 (zU_e) ?_
            refine z_pushJ gp_233_48 ?_
            refine z_isub (e := (J 50 54) + 1 - 1) gi_233_49 rfl ?_
            refine z_iret gi_233_50 gr_233 ?_
            refine ⟨?_, ?_⟩
            · first | rfl | exact congrArg (fun v => some (zi v)) (by omega) | (exfalso; omega)
            · exfalso
              omega
          · refine z_pushJ gp_233_21 ?_
            refine z_iret gi_233_23 gr_233 ?_
            refine ⟨?_, ?_⟩
            · first | rfl | exact congrArg (fun v => some (zi v)) (by omega) | (exfalso; omega)
            · exact hr
    · refine z_pushJ gp_1_10 ?_
      refine z_goto gi_1_11 ?_
      refine z_bret1 gi_1_15 gr_1 ?_
      show zW _ _ _ _ _ _ _ _ _ _
      refine z_if_neT gi_133_4 zr_1 (by decide) ?_
      refine z_aload0 rfl ?_
      refine z_getR (r := 34) rfl gk_0 (hR _ rm_0_10) ?_
      refine z_iload1 rfl ?_
      refine z_cV1 rfl gk_34 go_5 (Nat.le_of_ble_eq_true rfl) gc_5_RI ?_
      refine z_aload0 rfl ?_
      refine z_getI (v := J 34 1) rfl gk_34 (rfl) ?_
      refine z_pushJ gp_5_4 ?_
      refine z_icmp_lt rfl (by omega) zr_50 (fun h3 => ?_) (fun h3 => ?_)
      · refine z_aload0 rfl ?_
        refine z_getR (r := 35) rfl gk_34 (hR _ rm_34_0) ?_
        refine z_aload0 rfl ?_
        refine z_getI (v := J 34 1) rfl gk_34 (rfl) ?_
        refine z_iload1 rfl ?_
        refine z_iast (e := k) rfl gk_35 (by decide) (by omega) rfl ?_
        refine z_aload0 rfl ?_
        refine z_dup rfl rfl ?_
        refine z_getI (v := J 34 1) rfl gk_34 ((zU_n (by decide)).trans (rfl)) ?_
        refine z_pushJ gp_5_27 ?_
        refine z_iadd (e := (J 34 1) + 1) rfl rfl ?_
        refine z_putI (y := 1) rfl rfl gk_34 ?_
        refine z_aload0 rfl ?_
        refine z_getI (v := (J 34 1) + 1) rfl gk_34 (zU_e) ?_
        refine z_pushJ gp_5_36 ?_
        refine z_isub (e := (J 34 1) + 1 - 1) rfl rfl ?_
        refine z_iret rfl gr_5 ?_
        show zW _ _ _ _ _ _ _ _ _ _
        refine z_iret gi_133_17 gr_133 ?_
        refine ⟨_, rfl, ?_⟩
        show zW _ _ _ _ [some (.ref 50), some (zi k)] _ _ _ _ _
        refine z_iload1 gi_233_0 ?_
        refine z_pushJ gp_233_1 ?_
        refine z_pushJ gp_233_2 ?_
        refine z_cS3 gi_233_4 (Nat.le_of_ble_eq_true rfl) gc_148_III ?_
        refine z_iload0 gi_148_0 ?_
        refine z_iload1 gi_148_1 ?_
        refine z_icmp_lt gi_148_2 (by omega) zr_0 (fun h4 => ?_) (fun h4 => ?_)
        · refine z_pushJ gp_148_14 ?_
          refine z_bret0 gi_148_15 gr_148 ?_
          show zW _ _ _ _ _ _ _ _ _ _
          refine z_if_neF gi_233_7 zr_0 (by decide) ?_
          refine z_pushJ gp_233_10 ?_
          refine z_iret gi_233_11 gr_233 ?_
          refine ⟨?_, ?_⟩
          · first | rfl | exact congrArg (fun v => some (zi v)) (by omega) | (exfalso; omega)
          · exfalso
            omega
        · refine z_iload0 gi_148_5 ?_
          refine z_iload2 gi_148_6 ?_
          refine z_icmp_gt gi_148_7 (by omega) zr_7 (fun h5 => ?_) (fun h5 => ?_)
          · refine z_pushJ gp_148_14 ?_
            refine z_bret0 gi_148_15 gr_148 ?_
            show zW _ _ _ _ _ _ _ _ _ _
            refine z_if_neF gi_233_7 zr_0 (by decide) ?_
            refine z_pushJ gp_233_10 ?_
            refine z_iret gi_233_11 gr_233 ?_
            refine ⟨?_, ?_⟩
            · first | rfl | exact congrArg (fun v => some (zi v)) (by omega) | (exfalso; omega)
            · exfalso
              omega
          · refine z_pushJ gp_148_10 ?_
            refine z_goto gi_148_11 ?_
            refine z_bret1 gi_148_15 gr_148 ?_
            show zW _ _ _ _ _ _ _ _ _ _
            refine z_if_neT gi_233_7 zr_1 (by decide) ?_
            refine z_aload0 gi_233_12 ?_
            refine z_getI (v := J 50 54) gi_233_13 gk_50 ((zU_n (by decide)).trans ((zU_n (by decide)).trans (rfl))) ?_
            refine z_pushJ gp_233_16 ?_
            refine z_icmp_ne gi_233_18 (by omega) zr_50 (fun h6 => ?_) (fun h6 => ?_)
            · refine z_aload0 gi_233_24 ?_
              refine z_getR (r := 81) gi_233_25 gk_50 (hRr _ rm_50_55 (by decide)) ?_
              refine z_aload0 gi_233_28 ?_
              refine z_getI (v := J 50 54) gi_233_29 gk_50 ((zU_n (by decide)).trans ((zU_n (by decide)).trans (rfl))) ?_
              refine z_iload1 gi_233_32 ?_
              refine z_iast (e := k) gi_233_33 gk_81 (by decide) (by omega) rfl ?_
              refine z_aload0 gi_233_34 ?_
              refine z_dup gi_233_35 rfl ?_
              refine z_getI (v := J 50 54) gi_233_36 gk_50 ((zU_n (by decide)).trans ((zU_n (by decide)).trans ((zU_n (by decide)).trans (rfl)))) ?_
              refine z_pushJ gp_233_39 ?_
              refine z_iadd (e := (J 50 54) + 1) gi_233_40 rfl ?_
              refine z_putI (y := 54) gi_233_41 rfl gk_50 ?_
              refine z_aload0 gi_233_44 ?_
              refine z_getI (v := (J 50 54) + 1) gi_233_45 gk_50 (zU_e) ?_
              refine z_pushJ gp_233_48 ?_
              refine z_isub (e := (J 50 54) + 1 - 1) gi_233_49 rfl ?_
              refine z_iret gi_233_50 gr_233 ?_
              refine ⟨?_, ?_⟩
              · first | rfl | exact congrArg (fun v => some (zi v)) (by omega) | (exfalso; omega)
              · have hk := (zK_x (a := 50) (x := 54) (v := (J 50 54) + 1) (zK_x (a := 81) (x := J 50 54) (v := k) (zK_x (a := 34) (x := 1) (v := (J 34 1) + 1) (zK_x (a := 35) (x := J 34 1) (v := k) (zK_r (k := (kL [35, 81] [(34, 1), (50, 54)])) (A := J)) rfl) rfl) rfl) rfl)
                exact ⟨hR, hG, RelY_k hk (by repeat' constructor) (fun p => by repeat' constructor) hY, RelD_k hk (by repeat' constructor) (fun p => by repeat' constructor) hD, RelP_k hk (by repeat' constructor) (fun p => by repeat' constructor) hP, RelC_k hk (by repeat' constructor) (fun p => by repeat' constructor) hC, RelA_body hAc (by omega) (by omega), RelS_body hk (zK_r (k := kM)) (fun x j a b => ⟨kL_38 (by decide) (by decide) x j a b, kM_38 x j a b⟩) (fun p => ⟨rfl, rfl, rfl⟩) (by show J 34 1 ≤ J 34 1 + 1; omega) hS, RelT_k hk (by repeat' constructor) (fun p => by repeat' constructor) hTp, RelX_k hk (by repeat' constructor) (fun p => by repeat' constructor) hX, RelW_k hk ⟨rfl, rfl⟩ trivial hW⟩
            · refine z_pushJ gp_233_21 ?_
              refine z_iret gi_233_23 gr_233 ?_
              refine ⟨?_, ?_⟩
              · first | rfl | exact congrArg (fun v => some (zi v)) (by omega) | (exfalso; omega)
              · exfalso
                omega
      · refine z_pushJ gp_5_9 ?_
        refine z_iret rfl gr_5 ?_
        show zW _ _ _ _ _ _ _ _ _ _
        refine z_iret gi_133_17 gr_133 ?_
        refine ⟨_, rfl, ?_⟩
        show zW _ _ _ _ [some (.ref 50), some (zi k)] _ _ _ _ _
        refine z_iload1 gi_233_0 ?_
        refine z_pushJ gp_233_1 ?_
        refine z_pushJ gp_233_2 ?_
        refine z_cS3 gi_233_4 (Nat.le_of_ble_eq_true rfl) gc_148_III ?_
        refine z_iload0 gi_148_0 ?_
        refine z_iload1 gi_148_1 ?_
        refine z_icmp_lt gi_148_2 (by omega) zr_0 (fun h4 => ?_) (fun h4 => ?_)
        · refine z_pushJ gp_148_14 ?_
          refine z_bret0 gi_148_15 gr_148 ?_
          show zW _ _ _ _ _ _ _ _ _ _
          refine z_if_neF gi_233_7 zr_0 (by decide) ?_
          refine z_pushJ gp_233_10 ?_
          refine z_iret gi_233_11 gr_233 ?_
          refine ⟨?_, ?_⟩
          · first | rfl | exact congrArg (fun v => some (zi v)) (by omega) | (exfalso; omega)
          · exact hr
        · refine z_iload0 gi_148_5 ?_
          refine z_iload2 gi_148_6 ?_
          refine z_icmp_gt gi_148_7 (by omega) zr_7 (fun h5 => ?_) (fun h5 => ?_)
          · refine z_pushJ gp_148_14 ?_
            refine z_bret0 gi_148_15 gr_148 ?_
            show zW _ _ _ _ _ _ _ _ _ _
            refine z_if_neF gi_233_7 zr_0 (by decide) ?_
            refine z_pushJ gp_233_10 ?_
            refine z_iret gi_233_11 gr_233 ?_
            refine ⟨?_, ?_⟩
            · first | rfl | exact congrArg (fun v => some (zi v)) (by omega) | (exfalso; omega)
            · exact hr
          · refine z_pushJ gp_148_10 ?_
            refine z_goto gi_148_11 ?_
            refine z_bret1 gi_148_15 gr_148 ?_
            show zW _ _ _ _ _ _ _ _ _ _
            refine z_if_neT gi_233_7 zr_1 (by decide) ?_
            refine z_aload0 gi_233_12 ?_
            refine z_getI (v := J 50 54) gi_233_13 gk_50 (rfl) ?_
            refine z_pushJ gp_233_16 ?_
            refine z_icmp_ne gi_233_18 (by omega) zr_50 (fun h6 => ?_) (fun h6 => ?_)
            · refine z_aload0 gi_233_24 ?_
              refine z_getR (r := 81) gi_233_25 gk_50 (hRr _ rm_50_55 (by decide)) ?_
              refine z_aload0 gi_233_28 ?_
              refine z_getI (v := J 50 54) gi_233_29 gk_50 (rfl) ?_
              refine z_iload1 gi_233_32 ?_
              refine z_iast (e := k) gi_233_33 gk_81 (by decide) (by omega) rfl ?_
              refine z_aload0 gi_233_34 ?_
              refine z_dup gi_233_35 rfl ?_
              refine z_getI (v := J 50 54) gi_233_36 gk_50 ((zU_n (by decide)).trans (rfl)) ?_
              refine z_pushJ gp_233_39 ?_
              refine z_iadd (e := (J 50 54) + 1) gi_233_40 rfl ?_
              refine z_putI (y := 54) gi_233_41 rfl gk_50 ?_
              refine z_aload0 gi_233_44 ?_
              refine z_getI (v := (J 50 54) + 1) gi_233_45 gk_50 (zU_e) ?_
              refine z_pushJ gp_233_48 ?_
              refine z_isub (e := (J 50 54) + 1 - 1) gi_233_49 rfl ?_
              refine z_iret gi_233_50 gr_233 ?_
              refine ⟨?_, ?_⟩
              · first | rfl | exact congrArg (fun v => some (zi v)) (by omega) | (exfalso; omega)
              · exfalso
                omega
            · refine z_pushJ gp_233_21 ?_
              refine z_iret gi_233_23 gr_233 ?_
              refine ⟨?_, ?_⟩
              · first | rfl | exact congrArg (fun v => some (zi v)) (by omega) | (exfalso; omega)
              · exact hr
