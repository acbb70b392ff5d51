noncomputable def wS (n w f : Int) : Nat → Int → Int → Int → Int
  | 0, h, _, _ => h
  | m + 1, h, s, o => if s < n then wS n w f m (h + (if n - s < w then n - s else w)) (if s + w < o then o else s + w) (s + w + f) else h
theorem wS_n {n w f h s o : Int} : ∀ m : Nat, ¬ s < n → wS n w f m h s o = h := by
  intro m hs
  cases m with
  | zero => rfl
  | succ m => show (if s < n then _ else _) = _; rw [if_neg hs]
theorem wS_s {n w f h s o h2 s2 : Int} {m : Nat} (hs : s < n) (e1 : h + (if n - s < w then n - s else w) = h2) (e2 : (if s + w < o then o else s + w) = s2) : wS n w f (m + 1) h s o = wS n w f m h2 s2 (s + w + f) := by
  show (if s < n then _ else _) = _
  rw [if_pos hs, e1, e2]
theorem wornC_z {X : Nat × (Nat → Int32)} {d : Nat} {J M : zA} {R : zR} {P : zP} {n w f v : Int} (hn : 0 ≤ n ∧ n ≤ 9999) (hw : 1 ≤ w ∧ w ≤ 99) (hf : 1 ≤ f ∧ f ≤ 99) (hP : P (some (zi v)) J M R) : ∀ (m : Nat) (t h s o : Int) (e8 : Option Value), n - s ≤ m → (0 ≤ s ∧ s ≤ 10200) → (0 ≤ o ∧ o ≤ 10200) → (0 ≤ t ∧ t ≤ s) → wS n w f m h s o = v → zW X (d + 1) 121 47 [some (.ref 0), some (zi n), some (zi w), some (zi f), some (zi h), some (zi s), some (zi o), some (zi t), e8] [] J M R P := by
  intro m
  induction m with
  | zero =>
    intro t h s o e8 h1 h2 h3 h4 hv
    have hv : h = v := hv
    subst hv
    refine z_iload rfl rfl ?_
    refine z_pushI (z := 10000) rfl rfl ?_
    refine z_icmp_ge rfl (by omega) (by decide) (fun h1 => ?_) (fun h1 => ?_)
    · refine z_iload rfl rfl ?_
      exact z_iret rfl rfl hP
    · refine z_iload rfl rfl ?_
      refine z_iload rfl rfl ?_
      refine z_icmp_geT rfl (by omega) (by omega) (by omega) ?_
      refine z_iload rfl rfl ?_
      exact z_iret rfl rfl hP
  | succ m ih =>
    intro t h s o e8 h1 h2 h3 h4 hv
    by_cases hsn : n ≤ s
    · rw [wS_n _ (by omega)] at hv
      subst hv
      refine z_iload rfl rfl ?_
      refine z_pushI (z := 10000) rfl rfl ?_
      refine z_icmp_ge rfl (by omega) (by decide) (fun h1 => ?_) (fun h1 => ?_)
      · refine z_iload rfl rfl ?_
        exact z_iret rfl rfl hP
      · refine z_iload rfl rfl ?_
        refine z_iload rfl rfl ?_
        refine z_icmp_geT rfl (by omega) (by omega) (by omega) ?_
        refine z_iload rfl rfl ?_
        exact z_iret rfl rfl hP
    refine z_iload7 rfl ?_
    refine z_pushJ gp_121_49 ?_
    refine z_icmp_geF rfl (by omega) (by decide) (by omega) ?_
    refine z_iload5 rfl ?_
    refine z_iload1 rfl ?_
    refine z_icmp_ge rfl (by omega) (by omega) (fun h1 => ?_) (fun h1 => ?_)
    · refine z_iload4 rfl ?_
      refine z_iret rfl gr_121 ?_
      rw [wS_n _ (by omega)] at hv
      subst hv
      exact hP
    · refine z_iload5 rfl ?_
      refine z_iload2 rfl ?_
      refine z_iadd (e := s + w) rfl rfl ?_
      refine z_istore (ls1 := [some (.ref 0), some (zi n), some (zi w), some (zi f), some (zi h), some (zi s), some (zi o), some (zi t), some (zi (s + w))]) rfl rfl ?_
      refine z_iload4 rfl ?_
      refine z_iload2 rfl ?_
      refine z_iload1 rfl ?_
      refine z_iload5 rfl ?_
      refine z_isub (e := n - s) rfl rfl ?_
      refine z_mmin (e := if n - s < w then n - s else w) rfl (by omega) (by omega) (Nat.le_of_ble_eq_true rfl) rfl ?_
      refine z_iadd (e := h + (if n - s < w then n - s else w)) rfl rfl ?_
      refine z_istore (ls1 := [some (.ref 0), some (zi n), some (zi w), some (zi f), some (zi (h + (if n - s < w then n - s else w))), some (zi s), some (zi o), some (zi t), some (zi (s + w))]) rfl rfl ?_
      refine z_iload8 rfl ?_
      refine z_iload6 rfl ?_
      refine z_mmax (e := if s + w < o then o else s + w) rfl (by omega) (by omega) (Nat.le_of_ble_eq_true rfl) rfl ?_
      refine z_istore (ls1 := [some (.ref 0), some (zi n), some (zi w), some (zi f), some (zi (h + (if n - s < w then n - s else w))), some (zi (if s + w < o then o else s + w)), some (zi o), some (zi t), some (zi (s + w))]) rfl rfl ?_
      refine z_iload8 rfl ?_
      refine z_iload3 rfl ?_
      refine z_iadd (e := s + w + f) rfl rfl ?_
      refine z_istore (ls1 := [some (.ref 0), some (zi n), some (zi w), some (zi f), some (zi (h + (if n - s < w then n - s else w))), some (zi (if s + w < o then o else s + w)), some (zi (s + w + f)), some (zi t), some (zi (s + w))]) rfl rfl ?_
      refine z_iinc (c := 1) (e := t + 1) (ls1 := [some (.ref 0), some (zi n), some (zi w), some (zi f), some (zi (h + (if n - s < w then n - s else w))), some (zi (if s + w < o then o else s + w)), some (zi (s + w + f)), some (zi (t + 1)), some (zi (s + w))]) rfl rfl rfl rfl rfl ?_
      refine z_goto rfl ?_
      show zW _ _ _ _ [some (.ref 0), some (zi n), some (zi w), some (zi f), some (zi (h + (if n - s < w then n - s else w))), some (zi (if s + w < o then o else s + w)), some (zi (s + w + f)), some (zi (t + 1)), some (zi (s + w))] [] _ _ _ _
      refine ih (t + 1) (h + (if n - s < w then n - s else w)) (if s + w < o then o else s + w) (s + w + f) _ (by split <;> omega) (by split <;> omega) (by omega) (by split <;> omega) ?_
      rw [← hv, wS_s (by omega) rfl rfl]
theorem wornR_z {X : Nat × (Nat → Int32)} {d : Nat} {J M : zA} {R : zR} {P : zP} {n w f v : Int} (hR : zRoR R) (e7 : J 56 7 = w) (e8 : J 56 8 = f) (hn : 0 ≤ n ∧ n ≤ 9999) (hw : 1 ≤ w ∧ w ≤ 99) (hf : 1 ≤ f ∧ f ≤ 99) (hP : P (some (zi v)) J M R) : ∀ (m : Nat) (h s o : Int) (e5 e6 : Option Value), n - s ≤ m → (0 ≤ s ∧ s ≤ 10200) → (0 ≤ o ∧ o ≤ 10200) → wS n w f m h s o = v → zW X d 217 20 [some (.ref 50), some (zi n), some (zi h), some (zi s), some (zi o), e5, e6] [] J M R P := by
  intro m
  induction m with
  | zero =>
    intro h s o e5 e6 h1 h2 h3 hv
    have hv : h = v := hv
    subst hv
    refine z_iload rfl rfl ?_
    refine z_iload rfl rfl ?_
    refine z_icmp_geT rfl (by omega) (by omega) (by omega) ?_
    refine z_iload rfl rfl ?_
    exact z_iret rfl rfl hP
  | succ m ih =>
    intro h s o e5 e6 h1 h2 h3 hv
    refine z_iload3 rfl ?_
    refine z_iload1 rfl ?_
    refine z_icmp_ge rfl (by omega) (by omega) (fun h1 => ?_) (fun h1 => ?_)
    · refine z_iload2 rfl ?_
      refine z_iret rfl gr_217 ?_
      rw [wS_n _ (by omega)] at hv
      subst hv
      exact hP
    · refine z_iload3 rfl ?_
      refine z_aload0 rfl ?_
      refine z_getR (r := 56) rfl gk_50 (hR _ rm_50_7 (by decide)) ?_
      refine z_pushJ gp_217_30 ?_
      refine z_iald (v := w) rfl gk_56 (by decide) (by decide) (e7) ?_
      refine z_iadd (e := s + w) rfl rfl ?_
      refine z_istore (ls1 := [some (.ref 50), some (zi n), some (zi h), some (zi s), some (zi o), some (zi (s + w)), e6]) rfl rfl ?_
      refine z_iload2 rfl ?_
      refine z_iload5 rfl ?_
      refine z_iload1 rfl ?_
      refine z_icmp_ge rfl (by omega) (by omega) (fun h2 => ?_) (fun h2 => ?_)
      · refine z_iload1 rfl ?_
        refine z_iload3 gi_217_49 ?_
        refine z_isub (e := n - s) gi_217_50 rfl ?_
        refine z_iadd (e := h + (n - s)) gi_217_51 rfl ?_
        refine z_istore (ls1 := [some (.ref 50), some (zi n), some (zi (h + (n - s))), some (zi s), some (zi o), some (zi (s + w)), e6]) gi_217_52 rfl ?_
        refine z_iload5 gi_217_53 ?_
        refine z_iload4 gi_217_55 ?_
        refine z_icmp_le gi_217_57 (by omega) (by omega) (fun h3 => ?_) (fun h3 => ?_)
        · refine z_iload4 gi_217_65 ?_
          refine z_istore (ls1 := [some (.ref 50), some (zi n), some (zi (h + (n - s))), some (zi s), some (zi o), some (zi (s + w)), some (zi o)]) gi_217_67 rfl ?_
          refine z_iload5 gi_217_69 ?_
          refine z_aload0 gi_217_71 ?_
          refine z_getR (r := 56) gi_217_72 gk_50 (hR _ rm_50_7 (by decide)) ?_
          refine z_pushJ gp_217_75 ?_
          refine z_iald (v := f) gi_217_77 gk_56 (by decide) (by decide) (e8) ?_
          refine z_iadd (e := s + w + f) gi_217_78 rfl ?_
          refine z_istore (ls1 := [some (.ref 50), some (zi n), some (zi (h + (n - s))), some (zi s), some (zi (s + w + f)), some (zi (s + w)), some (zi o)]) gi_217_79 rfl ?_
          refine z_iload6 gi_217_81 ?_
          refine z_istore (ls1 := [some (.ref 50), some (zi n), some (zi (h + (n - s))), some (zi o), some (zi (s + w + f)), some (zi (s + w)), some (zi o)]) gi_217_83 rfl ?_
          refine z_goto gi_217_84 ?_
          show zW _ _ _ _ [some (.ref 50), some (zi n), some (zi (h + (n - s))), some (zi o), some (zi (s + w + f)), some (zi (s + w)), some (zi o)] [] _ _ _ _
          refine ih (h + (n - s)) (o) (s + w + f) _ _ (by omega) (by omega) (by omega) ?_
          rw [← hv, wS_s (h2 := h + (n - s)) (s2 := o) (by omega) (by split <;> omega) (by split <;> omega)]
        · refine z_iload5 gi_217_60 ?_
          refine z_goto gi_217_62 ?_
          refine z_istore (ls1 := [some (.ref 50), some (zi n), some (zi (h + (n - s))), some (zi s), some (zi o), some (zi (s + w)), some (zi (s + w))]) gi_217_67 rfl ?_
          refine z_iload5 gi_217_69 ?_
          refine z_aload0 gi_217_71 ?_
          refine z_getR (r := 56) gi_217_72 gk_50 (hR _ rm_50_7 (by decide)) ?_
          refine z_pushJ gp_217_75 ?_
          refine z_iald (v := f) gi_217_77 gk_56 (by decide) (by decide) (e8) ?_
          refine z_iadd (e := s + w + f) gi_217_78 rfl ?_
          refine z_istore (ls1 := [some (.ref 50), some (zi n), some (zi (h + (n - s))), some (zi s), some (zi (s + w + f)), some (zi (s + w)), some (zi (s + w))]) gi_217_79 rfl ?_
          refine z_iload6 gi_217_81 ?_
          refine z_istore (ls1 := [some (.ref 50), some (zi n), some (zi (h + (n - s))), some (zi (s + w)), some (zi (s + w + f)), some (zi (s + w)), some (zi (s + w))]) gi_217_83 rfl ?_
          refine z_goto gi_217_84 ?_
          show zW _ _ _ _ [some (.ref 50), some (zi n), some (zi (h + (n - s))), some (zi (s + w)), some (zi (s + w + f)), some (zi (s + w)), some (zi (s + w))] [] _ _ _ _
          refine ih (h + (n - s)) (s + w) (s + w + f) _ _ (by omega) (by omega) (by omega) ?_
          rw [← hv, wS_s (h2 := h + (n - s)) (s2 := s + w) (by omega) (by split <;> omega) (by split <;> omega)]
      · refine z_iload5 rfl ?_
        refine z_goto rfl ?_
        refine z_iload3 gi_217_49 ?_
        refine z_isub (e := s + w - s) gi_217_50 rfl ?_
        refine z_iadd (e := h + (s + w - s)) gi_217_51 rfl ?_
        refine z_istore (ls1 := [some (.ref 50), some (zi n), some (zi (h + (s + w - s))), some (zi s), some (zi o), some (zi (s + w)), e6]) gi_217_52 rfl ?_
        refine z_iload5 gi_217_53 ?_
        refine z_iload4 gi_217_55 ?_
        refine z_icmp_le gi_217_57 (by omega) (by omega) (fun h4 => ?_) (fun h4 => ?_)
        · refine z_iload4 gi_217_65 ?_
          refine z_istore (ls1 := [some (.ref 50), some (zi n), some (zi (h + (s + w - s))), some (zi s), some (zi o), some (zi (s + w)), some (zi o)]) gi_217_67 rfl ?_
          refine z_iload5 gi_217_69 ?_
          refine z_aload0 gi_217_71 ?_
          refine z_getR (r := 56) gi_217_72 gk_50 (hR _ rm_50_7 (by decide)) ?_
          refine z_pushJ gp_217_75 ?_
          refine z_iald (v := f) gi_217_77 gk_56 (by decide) (by decide) (e8) ?_
          refine z_iadd (e := s + w + f) gi_217_78 rfl ?_
          refine z_istore (ls1 := [some (.ref 50), some (zi n), some (zi (h + (s + w - s))), some (zi s), some (zi (s + w + f)), some (zi (s + w)), some (zi o)]) gi_217_79 rfl ?_
          refine z_iload6 gi_217_81 ?_
          refine z_istore (ls1 := [some (.ref 50), some (zi n), some (zi (h + (s + w - s))), some (zi o), some (zi (s + w + f)), some (zi (s + w)), some (zi o)]) gi_217_83 rfl ?_
          refine z_goto gi_217_84 ?_
          show zW _ _ _ _ [some (.ref 50), some (zi n), some (zi (h + (s + w - s))), some (zi o), some (zi (s + w + f)), some (zi (s + w)), some (zi o)] [] _ _ _ _
          refine ih (h + (s + w - s)) (o) (s + w + f) _ _ (by omega) (by omega) (by omega) ?_
          rw [← hv, wS_s (h2 := h + (s + w - s)) (s2 := o) (by omega) (by split <;> omega) (by split <;> omega)]
        · refine z_iload5 gi_217_60 ?_
          refine z_goto gi_217_62 ?_
          refine z_istore (ls1 := [some (.ref 50), some (zi n), some (zi (h + (s + w - s))), some (zi s), some (zi o), some (zi (s + w)), some (zi (s + w))]) gi_217_67 rfl ?_
          refine z_iload5 gi_217_69 ?_
          refine z_aload0 gi_217_71 ?_
          refine z_getR (r := 56) gi_217_72 gk_50 (hR _ rm_50_7 (by decide)) ?_
          refine z_pushJ gp_217_75 ?_
          refine z_iald (v := f) gi_217_77 gk_56 (by decide) (by decide) (e8) ?_
          refine z_iadd (e := s + w + f) gi_217_78 rfl ?_
          refine z_istore (ls1 := [some (.ref 50), some (zi n), some (zi (h + (s + w - s))), some (zi s), some (zi (s + w + f)), some (zi (s + w)), some (zi (s + w))]) gi_217_79 rfl ?_
          refine z_iload6 gi_217_81 ?_
          refine z_istore (ls1 := [some (.ref 50), some (zi n), some (zi (h + (s + w - s))), some (zi (s + w)), some (zi (s + w + f)), some (zi (s + w)), some (zi (s + w))]) gi_217_83 rfl ?_
          refine z_goto gi_217_84 ?_
          show zW _ _ _ _ [some (.ref 50), some (zi n), some (zi (h + (s + w - s))), some (zi (s + w)), some (zi (s + w + f)), some (zi (s + w)), some (zi (s + w))] [] _ _ _ _
          refine ih (h + (s + w - s)) (s + w) (s + w + f) _ _ (by omega) (by omega) (by omega) ?_
          rw [← hv, wS_s (h2 := h + (s + w - s)) (s2 := s + w) (by omega) (by split <;> omega) (by split <;> omega)]
theorem wornR_s {X : Nat × (Nat → Int32)} {d : Nat} {J M : zA} {R : zR} {n : Int} (hr : Rel X J M R) (hn : -2147483648 ≤ n ∧ n < 2147483648) (h9 : 0 ≤ n ∧ n ≤ 9999) : zW X (d + 20) 217 0 (gEn 217 [.ref 50, zi n]) [] J M R (fun r3 J3 M3 R3 => r3 = some (zi (wS n (cN J 0 12) (cN J 0 13) n.toNat 0 0 0)) ∧ Rel X J3 M3 R3) := by
  have hr0 := hr
  obtain ⟨hR, hG, hY, hD, hP, hC, hAc, hS, hTp, hX, hW⟩ := hr0
  have hRr : zRoR R := zRoR_of hR
  obtain ⟨y1, y2, y3⟩ := hY
  show zW _ _ _ _ [some (.ref 50), some (zi n), none, none, none, none, none] _ _ _ _ _
  refine z_iload1 gi_217_0 ?_
  refine z_pushJ gp_217_1 ?_
  refine z_pushJ gp_217_2 ?_
  refine z_cS3 gi_217_5 (Nat.le_of_ble_eq_true rfl) gc_148_III ?_
  refine z_iload0 gi_148_0 ?_
  refine z_iload1 gi_148_1 ?_
  refine z_icmp_lt gi_148_2 (by omega) zr_0 (fun h1 => ?_) (fun h1 => ?_)
  · refine z_pushJ gp_148_14 ?_
    refine z_bret0 gi_148_15 gr_148 ?_
    show zW _ _ _ _ _ _ _ _ _ _
    refine z_if_neF gi_217_8 zr_0 (by decide) ?_
    refine z_pushJ gp_217_11 ?_
    refine z_iret gi_217_12 gr_217 ?_
    exfalso
    omega
  · refine z_iload0 gi_148_5 ?_
    refine z_iload2 gi_148_6 ?_
    refine z_icmp_gt gi_148_7 (by omega) (by decide) (fun h2 => ?_) (fun h2 => ?_)
    · refine z_pushJ gp_148_14 ?_
      refine z_bret0 gi_148_15 gr_148 ?_
      show zW _ _ _ _ _ _ _ _ _ _
      refine z_if_neF gi_217_8 zr_0 (by decide) ?_
      refine z_pushJ gp_217_11 ?_
      refine z_iret gi_217_12 gr_217 ?_
      exfalso
      omega
    · refine z_pushJ gp_148_10 ?_
      refine z_goto gi_148_11 ?_
      refine z_bret1 gi_148_15 gr_148 ?_
      show zW _ _ _ _ _ _ _ _ _ _
      refine z_if_neT gi_217_8 zr_1 (by decide) ?_
      refine z_pushJ gp_217_13 ?_
      refine z_istore (ls1 := [some (.ref 50), some (zi n), some (zi 0), none, none, none, none]) rfl rfl ?_
      refine z_pushJ gp_217_15 ?_
      refine z_istore (ls1 := [some (.ref 50), some (zi n), some (zi 0), some (zi 0), none, none, none]) rfl rfl ?_
      refine z_pushJ gp_217_17 ?_
      refine z_istore (ls1 := [some (.ref 50), some (zi n), some (zi 0), some (zi 0), some (zi 0), none, none]) rfl rfl ?_
      show zW _ _ _ _ [some (.ref 50), some (zi n), some (zi 0), some (zi 0), some (zi 0), none, none] [] _ _ _ _
      exact wornR_z (v := wS n (cN J 0 12) (cN J 0 13) n.toNat 0 0 0) hRr (rg_7 (A := J) zK_r y1.symm) (rg_8 (A := J) zK_r y1.symm) (by omega) (zN12 y3) (zN13 y3) ⟨rfl, hr⟩ n.toNat 0 0 0 none none (by omega) (by omega) (by omega) rfl
theorem st_worn {X : Nat × (Nat → Int32)} {d : Nat} {J M : zA} {R : zR} {n : Int} (hr : Rel X J M R) (hn : -2147483648 ≤ n ∧ n < 2147483648)  : zW X (d + 20) 121 0 (gEn 121 [(.ref 0), (zi n)]) [] J M R (stP X (d + 20) 217 [(zi n)]) := by
  have hr0 := hr
  obtain ⟨hR, hG, hY, hD, hP, hC, hAc, hS, hTp, hX, hW⟩ := hr0
  have hRr : zRoR R := zRoR_of hR
  have hY0 := hY
  obtain ⟨y1, y2, y3⟩ := hY0
  have yn := zNn y3
  show zW _ _ _ _ [some (.ref 0), some (zi n), none, none, none, none, none, none, none] _ _ _ _ _
  refine z_iload1 rfl ?_
  refine z_if_lt rfl (by omega) (fun h1 => ?_) (fun h1 => ?_)
  · refine z_pushJ gp_121_11 ?_
    refine z_iret gi_121_12 gr_121 ?_
    refine ⟨_, rfl, ?_⟩
    show zW _ _ _ _ [some (.ref 50), some (zi n), none, none, none, none, none] _ _ _ _ _
    refine z_iload1 gi_217_0 ?_
    refine z_pushJ gp_217_1 ?_
    refine z_pushJ gp_217_2 ?_
    refine z_cS3 gi_217_5 (Nat.le_of_ble_eq_true rfl) gc_148_III ?_
    refine z_iload0 gi_148_0 ?_
    refine z_iload1 gi_148_1 ?_
    refine z_icmp_ltT gi_148_2 (by omega) zr_0 (by omega) ?_
    refine z_pushJ gp_148_14 ?_
    refine z_bret0 gi_148_15 gr_148 ?_
    show zW _ _ _ _ _ _ _ _ _ _
    refine z_if_neF gi_217_8 zr_0 (by decide) ?_
    refine z_pushJ gp_217_11 ?_
    refine z_iret gi_217_12 gr_217 ?_
    refine ⟨?_, ?_⟩
    · first | rfl | exact congrArg (fun v => some (zi v)) (by omega) | (exfalso; omega)
    · exact hr
  · refine z_iload1 rfl ?_
    refine z_pushJ gp_121_5 ?_
    refine z_icmp_le rfl (by omega) (by decide) (fun h2 => ?_) (fun h2 => ?_)
    · refine z_aload0 rfl ?_
      refine z_getR (r := 8) rfl gk_0 (hR _ rm_0_1) ?_
      refine z_pushJ gp_121_17 ?_
      refine z_pushJ gp_121_18 ?_
      refine z_callVP (As := [_, _]) (v := (cN J) 0 12) rfl rfl gk_8 (Nat.le_of_ble_eq_true rfl) (Nat.le_of_ble_eq_true rfl) (told_k hR zK_r rfl rfl y3 (by decide) (by decide)) ?_
      have q3 := zN12 y3
      refine z_istore (ls1 := [some (.ref 0), some (zi n), some (zi ((cN J) 0 12)), none, none, none, none, none, none]) rfl rfl ?_
      refine z_aload0 rfl ?_
      refine z_getR (r := 8) rfl gk_0 (hR _ rm_0_1) ?_
      refine z_pushJ gp_121_28 ?_
      refine z_pushJ gp_121_29 ?_
      refine z_callVP (As := [_, _]) (v := (cN J) 0 13) rfl rfl gk_8 (Nat.le_of_ble_eq_true rfl) (Nat.le_of_ble_eq_true rfl) (told_k hR zK_r rfl rfl y3 (by decide) (by decide)) ?_
      have q4 := zN13 y3
      refine z_istore (ls1 := [some (.ref 0), some (zi n), some (zi ((cN J) 0 12)), some (zi ((cN J) 0 13)), none, none, none, none, none]) rfl rfl ?_
      refine z_pushJ gp_121_35 ?_
      refine z_istore (ls1 := [some (.ref 0), some (zi n), some (zi ((cN J) 0 12)), some (zi ((cN J) 0 13)), some (zi 0), none, none, none, none]) rfl rfl ?_
      refine z_pushJ gp_121_38 ?_
      refine z_istore (ls1 := [some (.ref 0), some (zi n), some (zi ((cN J) 0 12)), some (zi ((cN J) 0 13)), some (zi 0), some (zi 0), none, none, none]) rfl rfl ?_
      refine z_pushJ gp_121_41 ?_
      refine z_istore (ls1 := [some (.ref 0), some (zi n), some (zi ((cN J) 0 12)), some (zi ((cN J) 0 13)), some (zi 0), some (zi 0), some (zi 0), none, none]) rfl rfl ?_
      refine z_pushJ gp_121_44 ?_
      refine z_istore (ls1 := [some (.ref 0), some (zi n), some (zi ((cN J) 0 12)), some (zi ((cN J) 0 13)), some (zi 0), some (zi 0), some (zi 0), some (zi 0), none]) rfl rfl ?_
      show zW _ _ _ _ [some (.ref 0), some (zi n), some (zi ((cN J) 0 12)), some (zi ((cN J) 0 13)), some (zi 0), some (zi 0), some (zi 0), some (zi 0), none] [] _ _ _ _
      refine wornC_z (v := wS n (cN J 0 12) (cN J 0 13) n.toNat 0 0 0) (by omega) (zN12 y3) (zN13 y3) ?_ n.toNat 0 0 0 0 none (by omega) (by omega) (by omega) (by omega) rfl
      refine ⟨_, rfl, ?_⟩
      exact wornR_s hr hn (by omega)
    · refine z_pushJ gp_121_11 ?_
      refine z_iret gi_121_12 gr_121 ?_
      refine ⟨_, rfl, ?_⟩
      show zW _ _ _ _ [some (.ref 50), some (zi n), none, none, none, none, none] _ _ _ _ _
      refine z_iload1 gi_217_0 ?_
      refine z_pushJ gp_217_1 ?_
      refine z_pushJ gp_217_2 ?_
      refine z_cS3 gi_217_5 (Nat.le_of_ble_eq_true rfl) gc_148_III ?_
      refine z_iload0 gi_148_0 ?_
      refine z_iload1 gi_148_1 ?_
      refine z_icmp_ltF gi_148_2 (by omega) zr_0 (by omega) ?_
      refine z_iload0 gi_148_5 ?_
      refine z_iload2 gi_148_6 ?_
      refine z_icmp_gtT gi_148_7 (by omega) (by decide) (by omega) ?_
      refine z_pushJ gp_148_14 ?_
      refine z_bret0 gi_148_15 gr_148 ?_
      show zW _ _ _ _ _ _ _ _ _ _
      refine z_if_neF gi_217_8 zr_0 (by decide) ?_
      refine z_pushJ gp_217_11 ?_
      refine z_iret gi_217_12 gr_217 ?_
      refine ⟨?_, ?_⟩
      · first | rfl | exact congrArg (fun v => some (zi v)) (by omega) | (exfalso; omega)
      · exact hr
