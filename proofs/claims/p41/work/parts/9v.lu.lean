theorem x1_R {e : en6} (he : e6r e) {x : Int × Int} (ok : okc x) {st : List Int} (h : stR st) : stR (x1 e x st) := by
  have hh : ∀ u : List Int, stR u → (-2147483648 ≤ u.headD 0 ∧ u.headD 0 < 2147483648) ∧ stR u.tail := by
    intro u hu
    cases u with
    | nil => exact ⟨⟨by decide, by decide⟩, hu⟩
    | cons a t => exact ⟨hu a (List.mem_cons_self ..), fun w hw => hu w (List.mem_cons_of_mem _ hw)⟩
  have hc : ∀ (v : Int) (u : List Int), (-2147483648 ≤ v ∧ v < 2147483648) → stR u → stR (v :: u) := by
    intro v u hv hu w hw
    rcases List.mem_cons.mp hw with k | k
    · rw [k]; exact hv
    · exact hu w k
  unfold x1
  rcases ok with ⟨k1, k2⟩ | ⟨k1, k2⟩ | ⟨k1, k2⟩ | ⟨k1, k2⟩
  · rw [if_pos k1]; exact hc _ _ (by omega) h
  · split
    · exact hc _ _ (by omega) h
    · exact hc _ _ (nv_r he x.1) h
  · (repeat' split) <;> first | exact hc _ _ (by omega) h | exact hc _ _ (nv_r he x.1) h | exact hc _ _ (by decide) (hh st h).2 | exact hc _ _ (zn_r _) (hh st h).2 | exact hc _ _ (jn_r _ _ _) (hh _ (hh st h).2).2
  · (repeat' split) <;> first | exact hc _ _ (by omega) h | exact hc _ _ (nv_r he x.1) h | exact hc _ _ (by decide) (hh st h).2 | exact hc _ _ (zn_r _) (hh st h).2 | exact hc _ _ (jn_r _ _ _) (hh _ (hh st h).2).2
theorem ex_R {e : en6} (he : e6r e) : ∀ (l : List (Int × Int)) (st : List Int), (∀ y ∈ l, okc y) → stR st → stR (ex e l st) := by
  intro l
  induction l with
  | nil => exact fun _ _ h => h
  | cons x l ih => exact fun st ok h => ih _ (fun y hy => ok y (List.mem_cons_of_mem _ hy)) (x1_R he (ok x (List.mem_cons_self ..)) h)
theorem ex_v {e : en6} (he : e6r e) {l : List (Int × Int)} (hg : gd l) : -2147483648 ≤ (ex e l []).headD 0 ∧ (ex e l []).headD 0 < 2147483648 := by
  have h := ex_R he l [] hg.1 (fun w hw => by cases hw)
  cases q : ex e l [] with
  | nil => exact ⟨by decide, by decide⟩
  | cons a t => exact h a (by rw [q]; exact List.mem_cons_self ..)
/-- rows of codes lie one behind the other -/
theorem lay_ap {J : zA} {p q : Nat} {i : Int} {l m : List (Int × Int)} (h : lay J p q i ((l ++ m).map enc)) : lay J p q i (l.map enc) ∧ lay J p q (i + (l.length : Int)) (m.map enc) := by
  rw [List.map_append] at h
  have g := lay_tl _ _ _ h
  rw [List.length_map] at g
  exact g
theorem wgt {X : Nat × (Nat → Int32)} {d : Nat} {M : zA} {R : zR} {P : zP} (hR : zRoR R) {B : zA} {e : en6} (hB : B 67 0 = e.1 ∧ B 67 1 = e.2.1 ∧ B 67 2 = e.2.2.1 ∧ B 67 3 = e.2.2.2.1 ∧ B 67 4 = e.2.2.2.2.1 ∧ B 67 5 = e.2.2.2.2.2) (he : e6r e) {n : Int} (hn : B 64 0 = n) (h61 : n ≤ 61) {x : lnT} {s l a b : Int} {J : zA} (hJ : zK (kL [68] []) B J) (h65 : B 65 l = s + a) (h66 : B 66 l = s + a + b) (ea : (x.1.length : Int) = a) (eb : (x.2.length : Int) = b) (y1 : lay B 62 63 s (x.1.map enc)) (y2 : lay B 62 63 (s + a) (x.2.map enc)) (g2 : gd x.2) (hl : 0 ≤ l ∧ l < n) (hs : 0 ≤ s ∧ s + a + b ≤ 120) (a0 : 0 ≤ a) (b0 : 0 ≤ b) (g1 : gd x.1) (a1 : 1 ≤ a) (K0 : (ex e x.1 []).headD 0 = 0 → ∀ J2 : zA, zK (kL [68] []) B J2 → zW X (d + 4) 181 7 [some (.ref 50), some (zi 0), some (zi (s + a + b)), some (zi (l + 1))] [] J2 M R P) (K1 : ¬ (ex e x.1 []).headD 0 = 0 → ∀ J2 : zA, zK (kL [68] []) B J2 → P (some (zi ((ex e x.2 []).headD 0))) J2 M R) : zW X (d + 4) 181 7 [some (.ref 50), some (zi 0), some (zi s), some (zi l)] [] J M R P := by
  have rv := ex_v he g1
  show zW _ _ _ _ [some (.ref 50), some (zi 0), some (zi s), some (zi l)] _ _ _ _ _
  refine z_iload3 gi_181_7 ?_
  refine z_pushJ gp_181_8 ?_
  refine z_iload1 gi_181_10 ?_
  refine z_imul (e := 0) gi_181_11 rfl ?_
  refine z_aload0 gi_181_12 ?_
  refine z_getR (r := 64) gi_181_13 gk_50 (hR _ rm_50_22 (by decide)) ?_
  refine z_iload1 gi_181_16 ?_
  refine z_iald (v := n) gi_181_17 gk_64 (by decide) (by decide) ((hJ 64 0 rfl).trans hn) ?_
  refine z_iadd (e := 0 + n) gi_181_18 rfl ?_
  refine z_icmp_geF gi_181_19 (by omega) (by omega) (by omega) ?_
  refine z_aload0 gi_181_22 ?_
  refine z_getR (r := 65) gi_181_23 gk_50 (hR _ rm_50_23 (by decide)) ?_
  refine z_iload3 gi_181_26 ?_
  refine z_hald (v := s + a) gi_181_27 gk_65 (by decide) (by omega) ((hJ 65 _ rfl).trans h65) ?_
  refine z_iload2 gi_181_28 ?_
  refine z_icmp_eqF gi_181_29 (by omega) (by omega) (by omega) ?_
  refine z_aload0 rfl ?_
  refine z_iload1 rfl ?_
  refine z_iload2 rfl ?_
  refine z_aload0 rfl ?_
  refine z_getR (r := 65) rfl gk_50 (hR _ rm_50_23 (by decide)) ?_
  refine z_iload3 rfl ?_
  refine z_hald (v := s + a) rfl gk_65 (by decide) (by omega) ((hJ 65 _ rfl).trans h65) ?_
  refine z_callV (As := [_, _, _]) _ rfl rfl rfl (Nat.le_of_ble_eq_true rfl) (Nat.le_of_ble_eq_true rfl) (worked_k (l := x.1) hR hB he hJ y1 g1 (by omega) (by omega) (by omega) (by omega)) (fun r J2 M2 R2 hr => ?_)
  obtain ⟨rfl, k2, rfl, rfl⟩ := hr
  show zW _ _ _ _ _ _ _ _ _ _
  refine z_if_eq rfl (by omega) (fun h1 => ?_) (fun h1 => ?_)
  · refine z_aload0 rfl ?_
    refine z_getR (r := 66) rfl gk_50 (hR _ rm_50_24 (by decide)) ?_
    refine z_iload3 rfl ?_
    refine z_hald (v := s + a + b) rfl gk_66 (by decide) (by omega) ((k2 66 _ rfl).trans h66) ?_
    refine z_istore (ls1 := [some (.ref 50), some (zi 0), some (zi (s + a + b)), some (zi l)]) rfl rfl ?_
    refine z_iinc (c := 1) (e := l + 1) (ls1 := [some (.ref 50), some (zi 0), some (zi (s + a + b)), some (zi (l + 1))]) rfl rfl rfl rfl rfl ?_
    refine z_goto rfl ?_
    show zW _ _ _ _ [some (.ref 50), some (zi 0), some (zi (s + a + b)), some (zi (l + 1))] [] _ _ _ _
    have h := K0 (by omega) J2 k2
    exact h
  · refine z_aload0 gi_181_47 ?_
    refine z_iload1 gi_181_48 ?_
    refine z_aload0 gi_181_49 ?_
    refine z_getR (r := 65) gi_181_50 gk_50 (hR _ rm_50_23 (by decide)) ?_
    refine z_iload3 gi_181_53 ?_
    refine z_hald (v := s + a) gi_181_54 gk_65 (by decide) (by omega) ((k2 65 _ rfl).trans h65) ?_
    refine z_aload0 gi_181_55 ?_
    refine z_getR (r := 66) gi_181_56 gk_50 (hR _ rm_50_24 (by decide)) ?_
    refine z_iload3 gi_181_59 ?_
    refine z_hald (v := s + a + b) gi_181_60 gk_66 (by decide) (by omega) ((k2 66 _ rfl).trans h66) ?_
    refine z_callV (As := [_, _, _]) _ gi_181_61 rfl rfl (Nat.le_of_ble_eq_true rfl) (Nat.le_of_ble_eq_true rfl) (worked_k (l := x.2) hR hB he k2 y2 g2 (by omega) (by omega) (by omega) (by omega)) (fun r J3 M3 R3 hr => ?_)
    obtain ⟨rfl, k3, rfl, rfl⟩ := hr
    show zW _ _ _ _ _ _ _ _ _ _
    refine z_iret gi_181_64 gr_181 ?_
    exact K1 (by omega) J3 k3
theorem wgn {X : Nat × (Nat → Int32)} {d : Nat} {M : zA} {R : zR} {P : zP} (hR : zRoR R) {B : zA} {e : en6} (hB : B 67 0 = e.1 ∧ B 67 1 = e.2.1 ∧ B 67 2 = e.2.2.1 ∧ B 67 3 = e.2.2.2.1 ∧ B 67 4 = e.2.2.2.2.1 ∧ B 67 5 = e.2.2.2.2.2) (he : e6r e) {n : Int} (hn : B 64 0 = n) (h61 : n ≤ 61) {x : lnT} {s l a b : Int} {J : zA} (hJ : zK (kL [68] []) B J) (h65 : B 65 l = s + a) (h66 : B 66 l = s + a + b) (ea : (x.1.length : Int) = a) (eb : (x.2.length : Int) = b) (y1 : lay B 62 63 s (x.1.map enc)) (y2 : lay B 62 63 (s + a) (x.2.map enc)) (g2 : gd x.2) (hl : 0 ≤ l ∧ l < n) (hs : 0 ≤ s ∧ s + a + b ≤ 120) (a0 : 0 ≤ a) (b0 : 0 ≤ b) (a1 : a = 0) (K1 : ∀ J2 : zA, zK (kL [68] []) B J2 → P (some (zi ((ex e x.2 []).headD 0))) J2 M R) : zW X (d + 4) 181 7 [some (.ref 50), some (zi 0), some (zi s), some (zi l)] [] J M R P := by
  have q0 := a1
  show zW _ _ _ _ [some (.ref 50), some (zi 0), some (zi s), some (zi l)] _ _ _ _ _
  refine z_iload3 gi_181_7 ?_
  refine z_pushJ gp_181_8 ?_
  refine z_iload1 gi_181_10 ?_
  refine z_imul (e := 0) gi_181_11 rfl ?_
  refine z_aload0 gi_181_12 ?_
  refine z_getR (r := 64) gi_181_13 gk_50 (hR _ rm_50_22 (by decide)) ?_
  refine z_iload1 gi_181_16 ?_
  refine z_iald (v := n) gi_181_17 gk_64 (by decide) (by decide) ((hJ 64 0 rfl).trans hn) ?_
  refine z_iadd (e := 0 + n) gi_181_18 rfl ?_
  refine z_icmp_geF gi_181_19 (by omega) (by omega) (by omega) ?_
  refine z_aload0 gi_181_22 ?_
  refine z_getR (r := 65) gi_181_23 gk_50 (hR _ rm_50_23 (by decide)) ?_
  refine z_iload3 gi_181_26 ?_
  refine z_hald (v := s + a) gi_181_27 gk_65 (by decide) (by omega) ((hJ 65 _ rfl).trans h65) ?_
  refine z_iload2 gi_181_28 ?_
  refine z_icmp_eqT gi_181_29 (by omega) (by omega) (by omega) ?_
  refine z_aload0 gi_181_47 ?_
  refine z_iload1 gi_181_48 ?_
  refine z_aload0 gi_181_49 ?_
  refine z_getR (r := 65) gi_181_50 gk_50 (hR _ rm_50_23 (by decide)) ?_
  refine z_iload3 gi_181_53 ?_
  refine z_hald (v := s + a) gi_181_54 gk_65 (by decide) (by omega) ((hJ 65 _ rfl).trans h65) ?_
  refine z_aload0 gi_181_55 ?_
  refine z_getR (r := 66) gi_181_56 gk_50 (hR _ rm_50_24 (by decide)) ?_
  refine z_iload3 gi_181_59 ?_
  refine z_hald (v := s + a + b) gi_181_60 gk_66 (by decide) (by omega) ((hJ 66 _ rfl).trans h66) ?_
  refine z_callV (As := [_, _, _]) _ gi_181_61 rfl rfl (Nat.le_of_ble_eq_true rfl) (Nat.le_of_ble_eq_true rfl) (worked_k (l := x.2) hR hB he hJ y2 g2 (by omega) (by omega) (by omega) (by omega)) (fun r J3 M3 R3 hr => ?_)
  obtain ⟨rfl, k3, rfl, rfl⟩ := hr
  show zW _ _ _ _ _ _ _ _ _ _
  refine z_iret gi_181_64 gr_181 ?_
  exact K1 J3 k3
theorem wge {X : Nat × (Nat → Int32)} {d : Nat} {M : zA} {R : zR} {P : zP} (hR : zRoR R) {B : zA} {e : en6} (hB : B 67 0 = e.1 ∧ B 67 1 = e.2.1 ∧ B 67 2 = e.2.2.1 ∧ B 67 3 = e.2.2.2.1 ∧ B 67 4 = e.2.2.2.2.1 ∧ B 67 5 = e.2.2.2.2.2) (he : e6r e) {n : Int} (hn : B 64 0 = n) (h61 : n ≤ 61) {s : Int} {J : zA} (hJ : zK (kL [68] []) B J) (n0 : 0 ≤ n) (KK : P (some (zi 0)) J M R) : zW X (d + 4) 181 7 [some (.ref 50), some (zi 0), some (zi s), some (zi n)] [] J M R P := by
  show zW _ _ _ _ [some (.ref 50), some (zi 0), some (zi s), some (zi n)] _ _ _ _ _
  refine z_iload3 gi_181_7 ?_
  refine z_pushJ gp_181_8 ?_
  refine z_iload1 gi_181_10 ?_
  refine z_imul (e := 0) gi_181_11 rfl ?_
  refine z_aload0 gi_181_12 ?_
  refine z_getR (r := 64) gi_181_13 gk_50 (hR _ rm_50_22 (by decide)) ?_
  refine z_iload1 gi_181_16 ?_
  refine z_iald (v := n) gi_181_17 gk_64 (by decide) (by decide) ((hJ 64 0 rfl).trans hn) ?_
  refine z_iadd (e := 0 + n) gi_181_18 rfl ?_
  refine z_icmp_geT gi_181_19 (by omega) (by omega) (by omega) ?_
  refine z_pushJ gp_181_78 ?_
  refine z_iret rfl gr_181 ?_
  exact KK
theorem wgl {X : Nat × (Nat → Int32)} {d : Nat} {M : zA} {R : zR} {P : zP} (hR : zRoR R) {B : zA} {e : en6} (hB : B 67 0 = e.1 ∧ B 67 1 = e.2.1 ∧ B 67 2 = e.2.2.1 ∧ B 67 3 = e.2.2.2.1 ∧ B 67 4 = e.2.2.2.2.1 ∧ B 67 5 = e.2.2.2.2.2) (he : e6r e) {n : Int} (hn : B 64 0 = n) (h61 : n ≤ 61) : ∀ (ls : List lnT) (l s : Int) (J : zA), zK (kL [68] []) B J → lnl B 0 0 l s ls → (∀ x ∈ ls, gdl x) → (0 ≤ l ∧ l + (ls.length : Int) = n) → (0 ≤ s ∧ s + nst ls ≤ 120) → (∀ J2 : zA, zK (kL [68] []) B J2 → P (some (zi (evl e ls))) J2 M R) → zW X (d + 4) 181 7 [some (.ref 50), some (zi 0), some (zi s), some (zi l)] [] J M R P := by
  intro ls
  induction ls with
  | nil =>
    intro l s J hJ hl hg h1 h2 KK
    have e1 : l = n := by have q : l + ((0 : Nat) : Int) = n := h1.2; omega
    subst e1
    exact wge hR hB he hn h61 hJ h1.1 (KK J hJ)
  | cons x t ih =>
    intro l s J hJ hl hg h1 h2 KK
    rw [List.length_cons] at h1
    have hn2 : nst (x :: t) = (x.1.length : Int) + (x.2.length : Int) + nst t := rfl
    have np := nst_p t
    obtain ⟨⟨h65, h66, hy⟩, hl2⟩ := hl
    rw [show (0 : Int) + l = l by omega] at h65 h66
    rw [show (0 : Int) + s = s by omega] at hy
    have z := lay_ap hy
    have gx := hg x (List.mem_cons_self ..)
    have hg2 : ∀ y ∈ t, gdl y := fun y hm => hg y (List.mem_cons_of_mem _ hm)
    rcases gx.1 with n1 | g1
    · rw [evl_1 (Or.inl n1)] at KK
      exact wgn hR hB he hn h61 hJ h65 h66 rfl rfl z.1 z.2 gx.2 (by omega) (by omega) (by omega) (by omega) (by rw [n1]; rfl) KK
    · have a1 : 1 ≤ (x.1.length : Int) := by
        cases q : x.1 with
        | nil => exact absurd q g1.2.2
        | cons y u => rw [List.length_cons]; omega
      refine wgt hR hB he hn h61 hJ h65 h66 rfl rfl z.1 z.2 gx.2 (by omega) (by omega) (by omega) (by omega) g1 a1 (fun v0 J2 k2 => ?_) (fun v0 J2 k2 => ?_)
      · rw [evl_0 g1.2.2 v0] at KK
        exact ih (l + 1) _ J2 k2 hl2 hg2 (by omega) (by omega) KK
      · rw [evl_1 (Or.inr v0)] at KK
        exact KK J2 k2
