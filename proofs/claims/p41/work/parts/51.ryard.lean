theorem rd_0 {A J : zA} {N : Int → Int → Int} {n : Int} (h : zK kT A J) (hA : rN A = N) (hz : A 50 1 = n) {p : Int} (hp : 0 ≤ p ∧ p < n) : J 51 p = N p 0 := (h 51 p rfl).trans (by subst hA hz; unfold rN; rw [if_pos (by omega)]; rfl)
theorem rd_1 {A J : zA} {N : Int → Int → Int} {n : Int} (h : zK kT A J) (hA : rN A = N) (hz : A 50 1 = n) {p : Int} (hp : 0 ≤ p ∧ p < n) : J 52 p = N p 1 := (h 52 p rfl).trans (by subst hA hz; unfold rN; rw [if_pos (by omega)]; rfl)
theorem rd_2 {A J : zA} {N : Int → Int → Int} {n : Int} (h : zK kT A J) (hA : rN A = N) (hz : A 50 1 = n) {p : Int} (hp : 0 ≤ p ∧ p < n) : J 53 p = N p 2 := (h 53 p rfl).trans (by subst hA hz; unfold rN; rw [if_pos (by omega)]; rfl)
theorem rd_3 {A J : zA} {N : Int → Int → Int} {n : Int} (h : zK kT A J) (hA : rN A = N) (hz : A 50 1 = n) {p : Int} (hp : 0 ≤ p ∧ p < n) : J 54 p = N p 3 := (h 54 p rfl).trans (by subst hA hz; unfold rN; rw [if_pos (by omega)]; rfl)
theorem rd_4 {A J : zA} {N : Int → Int → Int} {n : Int} (h : zK kT A J) (hA : rN A = N) (hz : A 50 1 = n) {p : Int} (hp : 0 ≤ p ∧ p < n) : J 55 p = N p 4 := (h 55 p rfl).trans (by subst hA hz; unfold rN; rw [if_pos (by omega)]; rfl)
theorem rg_0 {A J : zA} {N : Int → Int → Int} (h : zK kT A J) (hA : rN A = N) : J 56 0 = N 0 5 := (h 56 0 rfl).trans (by subst hA; exact (rN_g (w := 5) (by omega)).symm)
theorem rg_1 {A J : zA} {N : Int → Int → Int} (h : zK kT A J) (hA : rN A = N) : J 56 1 = N 0 6 := (h 56 1 rfl).trans (by subst hA; exact (rN_g (w := 6) (by omega)).symm)
theorem rg_2 {A J : zA} {N : Int → Int → Int} (h : zK kT A J) (hA : rN A = N) : J 56 2 = N 0 7 := (h 56 2 rfl).trans (by subst hA; exact (rN_g (w := 7) (by omega)).symm)
theorem rg_3 {A J : zA} {N : Int → Int → Int} (h : zK kT A J) (hA : rN A = N) : J 56 3 = N 0 8 := (h 56 3 rfl).trans (by subst hA; exact (rN_g (w := 8) (by omega)).symm)
theorem rg_4 {A J : zA} {N : Int → Int → Int} (h : zK kT A J) (hA : rN A = N) : J 56 4 = N 0 9 := (h 56 4 rfl).trans (by subst hA; exact (rN_g (w := 9) (by omega)).symm)
theorem rg_5 {A J : zA} {N : Int → Int → Int} (h : zK kT A J) (hA : rN A = N) : J 56 5 = N 0 10 := (h 56 5 rfl).trans (by subst hA; exact (rN_g (w := 10) (by omega)).symm)
theorem rg_6 {A J : zA} {N : Int → Int → Int} (h : zK kT A J) (hA : rN A = N) : J 56 6 = N 0 11 := (h 56 6 rfl).trans (by subst hA; exact (rN_g (w := 11) (by omega)).symm)
theorem rg_7 {A J : zA} {N : Int → Int → Int} (h : zK kT A J) (hA : rN A = N) : J 56 7 = N 0 12 := (h 56 7 rfl).trans (by subst hA; exact (rN_g (w := 12) (by omega)).symm)
theorem rg_8 {A J : zA} {N : Int → Int → Int} (h : zK kT A J) (hA : rN A = N) : J 56 8 = N 0 13 := (h 56 8 rfl).trans (by subst hA; exact (rN_g (w := 13) (by omega)).symm)
theorem apart_k {X : Nat × (Nat → Int32)} {d : Nat} {J M : zA} {R : zR} {a b : Int} (ha : (-1073741824 ≤ a ∧ a < 1073741824)) (hb : (-1073741824 ≤ b ∧ b < 1073741824)) : zW X d 149 0 (gEn 149 [(zi a), (zi b)]) [] J M R (zPu (ab (a - b)) J M R) := by
  show zW _ _ _ _ [some (zi a), some (zi b)] _ _ _ _ _
  refine z_iload0 rfl ?_
  refine z_iload1 rfl ?_
  refine z_icmp_ge rfl (by omega) (by omega) (fun h1 => ?_) (fun h1 => ?_)
  · refine z_iload0 rfl ?_
    refine z_iload1 rfl ?_
    refine z_isub (e := a - b) rfl rfl ?_
    refine z_iret gi_149_14 gr_149 ?_
    refine ⟨congrArg (fun v => some (zi v)) ?_, rfl, rfl, rfl⟩
    unfold ab
    split <;> omega
  · refine z_iload1 rfl ?_
    refine z_iload0 rfl ?_
    refine z_isub (e := b - a) rfl rfl ?_
    refine z_goto rfl ?_
    refine z_iret gi_149_14 gr_149 ?_
    refine ⟨congrArg (fun v => some (zi v)) ?_, rfl, rfl, rfl⟩
    unfold ab
    split <;> omega
noncomputable def sPart (o all : Int) : Int := if all = 0 then 0 else 1000000 * o / all
theorem sPart_s {N : Int → Int → Int} {n p : Int} (h : zNr n N) : sPart (N p 2) (sAll N n.toNat) = sShare N n p := by
  have r := sAll_r h n.toNat
  unfold sPart sShare
  split <;> split <;> first | rfl | (exfalso; omega)
theorem sPart_g {N : Int → Int → Int} {n : Int} (h : zNr n N) : sPart (N 0 5) (sAll N n.toNat) = sGone N n := by
  have r := sAll_r h n.toNat
  unfold sPart sGone
  split <;> split <;> first | rfl | (exfalso; omega)
theorem part_k {X : Nat × (Nat → Int32)} {d : Nat} {J M : zA} {R : zR} {a b : Int} (ha : 0 ≤ a ∧ a ≤ 99) (hb : 0 ≤ b ∧ b ≤ 10000) : zW X d 186 0 (gEn 186 [(zi a), (zi b)]) [] J M R (zPu (sPart a b) J M R) := by
  show zW _ _ _ _ [some (zi a), some (zi b)] _ _ _ _ _
  refine z_iload1 rfl ?_
  refine z_if_ne rfl (by omega) (fun h1 => ?_) (fun h1 => ?_)
  · refine z_pushJ gp_186_8 ?_
    refine z_iload0 rfl ?_
    refine z_imul (e := 1000000 * a) rfl rfl ?_
    refine z_iload1 rfl ?_
    refine z_idiv (e := 1000000 * a / b) rfl (by omega) (by omega) rfl ?_
    refine z_iret gi_186_14 gr_186 ?_
    refine ⟨congrArg (fun v => some (zi v)) ?_, rfl, rfl, rfl⟩
    unfold sPart
    split <;> first | rfl | (exfalso; omega)
  · refine z_pushJ gp_186_4 ?_
    refine z_goto rfl ?_
    refine z_iret gi_186_14 gr_186 ?_
    refine ⟨congrArg (fun v => some (zi v)) ?_, rfl, rfl, rfl⟩
    unfold sPart
    split <;> first | rfl | (exfalso; omega)
theorem rallOdds_z {X : Nat × (Nat → Int32)} {d : Nat} {J M : zA} {R : zR} {P : zP} {A : zA} {N : Int → Int → Int} {n : Int} (hR : zRoR R) (hJ : zK kT A J) (hA : rN A = N) (hz : A 50 1 = n) (hN : zNr n N) (hP : P (some (zi (sAll N n.toNat))) J M R) : ∀ (j k : Nat), (k : Int) + j = n → zW X (d + 2) 185 9 [some (.ref 50), some (zi (sAll N k)), some (zi (k : Int))] [] J M R P := by
  intro j
  induction j with
  | zero =>
    intro k hk
    have q := zNn hN
    have r := sAll_r hN k
    refine z_iload rfl rfl ?_
    refine z_aload rfl rfl ?_
    refine z_getI (v := n) rfl rfl ((hJ 50 1 rfl).trans hz) ?_
    refine z_icmp_geT rfl (by omega) (by omega) (by omega) ?_
    refine z_iload rfl rfl ?_
    refine z_iret rfl rfl ?_
    rw [show k = n.toNat by omega]
    exact hP
  | succ j ih =>
    intro k hk
    have q := zNn hN
    have r := sAll_r hN k
    refine z_iload2 rfl ?_
    refine z_aload0 rfl ?_
    refine z_getI (v := n) rfl gk_50 ((hJ 50 1 rfl).trans hz) ?_
    refine z_icmp_ge rfl (by omega) (by omega) (fun h1 => ?_) (fun h1 => ?_)
    · refine z_iload1 rfl ?_
      refine z_iret rfl gr_185 ?_
      exfalso
      omega
    · refine z_iload1 rfl ?_
      refine z_aload0 rfl ?_
      refine z_getR (r := 53) rfl gk_50 (hR _ rm_50_4 (by decide)) ?_
      refine z_iload2 rfl ?_
      have q2 := zN2 hN (k : Int)
      refine z_iald (v := N (k : Int) 2) rfl gk_53 (by decide) (by omega) (rd_2 hJ hA hz (by omega)) ?_
      refine z_iadd (e := (sAll N k) + (N (k : Int) 2)) rfl rfl ?_
      refine z_istore (ls1 := [some (.ref 50), some (zi ((sAll N k) + (N (k : Int) 2))), some (zi (k : Int))]) rfl rfl ?_
      refine z_iinc (c := 1) (e := (k : Int) + 1) (ls1 := [some (.ref 50), some (zi ((sAll N k) + (N (k : Int) 2))), some (zi ((k : Int) + 1))]) rfl rfl rfl rfl rfl ?_
      refine z_goto rfl ?_
      show zW _ _ _ _ [some (.ref 50), some (zi ((sAll N k) + (N (k : Int) 2))), some (zi ((k : Int) + 1))] [] _ _ _ _
      have e := ih (k + 1) (by omega)
      exact e
theorem rallOdds_k {X : Nat × (Nat → Int32)} {d : Nat} {J M : zA} {R : zR} {A : zA} {N : Int → Int → Int} {n : Int} (hR : zRoR R) (hJ : zK kT A J) (hA : rN A = N) (hz : A 50 1 = n) (hN : zNr n N) : zW X (d + 2) 185 0 (gEn 185 [(.ref 50)]) [] J M R (zPu (sAll N n.toNat) J M R) := by
  have q := zNn hN
  show zW _ _ _ _ [some (.ref 50), none, none] _ _ _ _ _
  refine z_aload0 rfl ?_
  refine z_getR (r := 56) rfl gk_50 (hR _ rm_50_7 (by decide)) ?_
  refine z_pushJ gp_185_4 ?_
  have q1 := zN5 hN
  refine z_iald (v := N 0 5) rfl gk_56 (by decide) (by decide) (rg_0 hJ hA) ?_
  refine z_istore (ls1 := [some (.ref 50), some (zi (N 0 5)), none]) rfl rfl ?_
  refine z_pushJ gp_185_7 ?_
  refine z_istore (ls1 := [some (.ref 50), some (zi (N 0 5)), some (zi 0)]) rfl rfl ?_
  show zW _ _ _ _ [some (.ref 50), some (zi (N 0 5)), some (zi 0)] [] _ _ _ _
  exact rallOdds_z hR hJ hA hz hN ⟨rfl, rfl, rfl, rfl⟩ n.toNat 0 (by omega)
theorem wayTo_k {X : Nat × (Nat → Int32)} {d : Nat} {J M : zA} {R : zR} {A : zA} {N : Int → Int → Int} {n : Int} (hR : zRoR R) (hJ : zK kT A J) (hA : rN A = N) (hz : A 50 1 = n) (hN : zNr n N) {p : Int} (hp : 0 ≤ p ∧ p < n) (ha : -1 ≤ A 50 30 ∧ A 50 30 < n) : zW X (d + 3) 188 0 (gEn 188 [(.ref 50), (zi p)]) [] J M R (zPu (sWay N (A 50 30) p) J M R) := by
  have q := zNn hN
  show zW _ _ _ _ [some (.ref 50), some (zi p), none, none] _ _ _ _ _
  refine z_aload0 rfl ?_
  refine z_getI (v := A 50 30) rfl gk_50 (hJ 50 30 rfl) ?_
  refine z_if_ge rfl (by omega) (fun h1 => ?_) (fun h1 => ?_)
  · refine z_aload0 rfl ?_
    refine z_getI (v := A 50 30) rfl gk_50 (hJ 50 30 rfl) ?_
    refine z_istore (ls1 := [some (.ref 50), some (zi p), some (zi (A 50 30)), none]) gi_188_15 rfl ?_
    refine z_aload0 gi_188_16 ?_
    refine z_getR (r := 51) gi_188_17 gk_50 (hR _ rm_50_2 (by decide)) ?_
    refine z_iload2 gi_188_20 ?_
    have q2 := zN0 hN (A 50 30)
    refine z_iald (v := N (A 50 30) 0) gi_188_21 gk_51 (by decide) (by omega) (rd_0 hJ hA hz (by omega)) ?_
    refine z_aload0 gi_188_22 ?_
    refine z_getR (r := 51) gi_188_23 gk_50 (hR _ rm_50_2 (by decide)) ?_
    refine z_iload1 gi_188_26 ?_
    have q3 := zN0 hN p
    refine z_iald (v := N p 0) gi_188_27 gk_51 (by decide) (by omega) (rd_0 hJ hA hz (by omega)) ?_
    refine z_callSP (As := [_, _]) (v := ab ((N (A 50 30) 0) - (N p 0))) gi_188_28 rfl (Nat.le_of_ble_eq_true rfl) (Nat.le_of_ble_eq_true rfl) (apart_k (by omega) (by omega)) ?_
    have q4 := @ab_r ((N (A 50 30) 0) - (N p 0))
    refine z_aload0 gi_188_31 ?_
    refine z_getR (r := 52) gi_188_32 gk_50 (hR _ rm_50_3 (by decide)) ?_
    refine z_iload2 gi_188_35 ?_
    have q5 := zN1 hN (A 50 30)
    refine z_iald (v := N (A 50 30) 1) gi_188_36 gk_52 (by decide) (by omega) (rd_1 hJ hA hz (by omega)) ?_
    refine z_aload0 gi_188_37 ?_
    refine z_getR (r := 52) gi_188_38 gk_50 (hR _ rm_50_3 (by decide)) ?_
    refine z_iload1 gi_188_41 ?_
    have q6 := zN1 hN p
    refine z_iald (v := N p 1) gi_188_42 gk_52 (by decide) (by omega) (rd_1 hJ hA hz (by omega)) ?_
    refine z_callSP (As := [_, _]) (v := ab ((N (A 50 30) 1) - (N p 1))) gi_188_43 rfl (Nat.le_of_ble_eq_true rfl) (Nat.le_of_ble_eq_true rfl) (apart_k (by omega) (by omega)) ?_
    have q7 := @ab_r ((N (A 50 30) 1) - (N p 1))
    refine z_iadd (e := (ab ((N (A 50 30) 0) - (N p 0))) + (ab ((N (A 50 30) 1) - (N p 1)))) gi_188_46 rfl ?_
    refine z_istore (ls1 := [some (.ref 50), some (zi p), some (zi (A 50 30)), some (zi ((ab ((N (A 50 30) 0) - (N p 0))) + (ab ((N (A 50 30) 1) - (N p 1)))))]) gi_188_47 rfl ?_
    refine z_iload3 gi_188_48 ?_
    refine z_aload0 gi_188_49 ?_
    refine z_getR (r := 56) gi_188_50 gk_50 (hR _ rm_50_7 (by decide)) ?_
    refine z_pushJ gp_188_53 ?_
    have q8 := zN7 hN
    refine z_iald (v := N 0 7) gi_188_54 gk_56 (by decide) (by decide) (rg_2 hJ hA) ?_
    refine z_iadd (e := (ab ((N (A 50 30) 0) - (N p 0))) + (ab ((N (A 50 30) 1) - (N p 1))) + (N 0 7)) gi_188_55 rfl ?_
    refine z_pushJ gp_188_56 ?_
    refine z_isub (e := (ab ((N (A 50 30) 0) - (N p 0))) + (ab ((N (A 50 30) 1) - (N p 1))) + (N 0 7) - 1) gi_188_57 rfl ?_
    refine z_aload0 gi_188_58 ?_
    refine z_getR (r := 56) gi_188_59 gk_50 (hR _ rm_50_7 (by decide)) ?_
    refine z_pushJ gp_188_62 ?_
    have q9 := zN7 hN
    refine z_iald (v := N 0 7) gi_188_63 gk_56 (by decide) (by decide) (rg_2 hJ hA) ?_
    refine z_idiv (e := ((ab ((N (A 50 30) 0) - (N p 0))) + (ab ((N (A 50 30) 1) - (N p 1))) + (N 0 7) - 1) / (N 0 7)) gi_188_64 (by omega) (by omega) rfl ?_
    refine z_iret gi_188_65 gr_188 ?_
    refine ⟨congrArg (fun v => some (zi v)) ?_, rfl, rfl, rfl⟩
    unfold sWay sYards
    split <;> first | rfl | (exfalso; omega)
  · refine z_pushJ gp_188_7 ?_
    refine z_goto rfl ?_
    refine z_istore (ls1 := [some (.ref 50), some (zi p), some (zi 0), none]) gi_188_15 rfl ?_
    refine z_aload0 gi_188_16 ?_
    refine z_getR (r := 51) gi_188_17 gk_50 (hR _ rm_50_2 (by decide)) ?_
    refine z_iload2 gi_188_20 ?_
    have q10 := zN0 hN 0
    refine z_iald (v := N 0 0) gi_188_21 gk_51 (by decide) (by decide) (rd_0 hJ hA hz (by omega)) ?_
    refine z_aload0 gi_188_22 ?_
    refine z_getR (r := 51) gi_188_23 gk_50 (hR _ rm_50_2 (by decide)) ?_
    refine z_iload1 gi_188_26 ?_
    have q11 := zN0 hN p
    refine z_iald (v := N p 0) gi_188_27 gk_51 (by decide) (by omega) (rd_0 hJ hA hz (by omega)) ?_
    refine z_callSP (As := [_, _]) (v := ab ((N 0 0) - (N p 0))) gi_188_28 rfl (Nat.le_of_ble_eq_true rfl) (Nat.le_of_ble_eq_true rfl) (apart_k (by omega) (by omega)) ?_
    have q12 := @ab_r ((N 0 0) - (N p 0))
    refine z_aload0 gi_188_31 ?_
    refine z_getR (r := 52) gi_188_32 gk_50 (hR _ rm_50_3 (by decide)) ?_
    refine z_iload2 gi_188_35 ?_
    have q13 := zN1 hN 0
    refine z_iald (v := N 0 1) gi_188_36 gk_52 (by decide) (by decide) (rd_1 hJ hA hz (by omega)) ?_
    refine z_aload0 gi_188_37 ?_
    refine z_getR (r := 52) gi_188_38 gk_50 (hR _ rm_50_3 (by decide)) ?_
    refine z_iload1 gi_188_41 ?_
    have q14 := zN1 hN p
    refine z_iald (v := N p 1) gi_188_42 gk_52 (by decide) (by omega) (rd_1 hJ hA hz (by omega)) ?_
    refine z_callSP (As := [_, _]) (v := ab ((N 0 1) - (N p 1))) gi_188_43 rfl (Nat.le_of_ble_eq_true rfl) (Nat.le_of_ble_eq_true rfl) (apart_k (by omega) (by omega)) ?_
    have q15 := @ab_r ((N 0 1) - (N p 1))
    refine z_iadd (e := (ab ((N 0 0) - (N p 0))) + (ab ((N 0 1) - (N p 1)))) gi_188_46 rfl ?_
    refine z_istore (ls1 := [some (.ref 50), some (zi p), some (zi 0), some (zi ((ab ((N 0 0) - (N p 0))) + (ab ((N 0 1) - (N p 1)))))]) gi_188_47 rfl ?_
    refine z_iload3 gi_188_48 ?_
    refine z_aload0 gi_188_49 ?_
    refine z_getR (r := 56) gi_188_50 gk_50 (hR _ rm_50_7 (by decide)) ?_
    refine z_pushJ gp_188_53 ?_
    have q16 := zN7 hN
    refine z_iald (v := N 0 7) gi_188_54 gk_56 (by decide) (by decide) (rg_2 hJ hA) ?_
    refine z_iadd (e := (ab ((N 0 0) - (N p 0))) + (ab ((N 0 1) - (N p 1))) + (N 0 7)) gi_188_55 rfl ?_
    refine z_pushJ gp_188_56 ?_
    refine z_isub (e := (ab ((N 0 0) - (N p 0))) + (ab ((N 0 1) - (N p 1))) + (N 0 7) - 1) gi_188_57 rfl ?_
    refine z_aload0 gi_188_58 ?_
    refine z_getR (r := 56) gi_188_59 gk_50 (hR _ rm_50_7 (by decide)) ?_
    refine z_pushJ gp_188_62 ?_
    have q17 := zN7 hN
    refine z_iald (v := N 0 7) gi_188_63 gk_56 (by decide) (by decide) (rg_2 hJ hA) ?_
    refine z_idiv (e := ((ab ((N 0 0) - (N p 0))) + (ab ((N 0 1) - (N p 1))) + (N 0 7) - 1) / (N 0 7)) gi_188_64 (by omega) (by omega) rfl ?_
    refine z_iret gi_188_65 gr_188 ?_
    refine ⟨congrArg (fun v => some (zi v)) ?_, rfl, rfl, rfl⟩
    unfold sWay sYards
    split <;> first | rfl | (exfalso; omega)
noncomputable def T0 : zX := fun h d _ _ c _ => zn (if 0 < c then h - d else if d = 0 then 1 else 0)
def LawG (X : Nat × (Nat → Int32)) (A : zA) (T : zX) : Prop := ∀ (d : Nat) (J M : zA) (R : zR), zRoR R → (J 64 0 = A 64 0) → (∀ j, j < 130 → J 62 j = A 62 j ∧ J 63 j = A 63 j) → (∀ j, j < 61 → J 65 j = A 65 j ∧ J 66 j = A 66 j) → (-2147483648 ≤ J 67 0 ∧ J 67 0 < 2147483648) → (-2147483648 ≤ J 67 1 ∧ J 67 1 < 2147483648) → (-2147483648 ≤ J 67 2 ∧ J 67 2 < 2147483648) → (-2147483648 ≤ J 67 3 ∧ J 67 3 < 2147483648) → (-2147483648 ≤ J 67 4 ∧ J 67 4 < 2147483648) → (-2147483648 ≤ J 67 5 ∧ J 67 5 < 2147483648) → zW X (d + 4) 181 0 (gEn 181 [.ref 50, zi 0]) [] J M R (zPk (T (J 67 0) (J 67 1) (J 67 2) (J 67 3) (J 67 4) (J 67 5)) J M R)
/-- what the reference's text answers -/
def LawR (X : Nat × (Nat → Int32)) (A : zA) (T : zX) : Prop := (A 50 27 = 0 ∧ T = T0) ∨ (A 50 27 = 1 ∧ LawG X A T)
theorem LawR_B {X : Nat × (Nat → Int32)} {A B : zA} {T : zX} (h : LawR X A T) (h0 : B 50 27 = A 50 27) (h4 : B 64 0 = A 64 0) (h2 : ∀ j, j < 130 → B 62 j = A 62 j ∧ B 63 j = A 63 j) (h5 : ∀ j, j < 61 → B 65 j = A 65 j ∧ B 66 j = A 66 j) : LawR X B T := by
  rcases h with ⟨e, ht⟩ | ⟨e, hg⟩
  · exact Or.inl ⟨h0.trans e, ht⟩
  · refine Or.inr ⟨h0.trans e, ?_⟩
    intro d J M R hR j4 j2 j5
    exact hg d J M R hR (j4.trans h4) (fun j g => ⟨(j2 j g).1.trans (h2 j g).1, (j2 j g).2.trans (h2 j g).2⟩) (fun j g => ⟨(j5 j g).1.trans (h5 j g).1, (j5 j g).2.trans (h5 j g).2⟩)
theorem LawR_A {X : Nat × (Nat → Int32)} {A B : zA} {T : zX} (h : LawR X A T) (h0 : B 50 27 = A 50 27) (h1 : ∀ x j, 62 ≤ x → x ≤ 66 → B x j = A x j) : LawR X B T :=
  LawR_B h h0 (h1 64 0 (by decide) (by decide)) (fun j _ => ⟨h1 62 j (by decide) (by decide), h1 63 j (by decide) (by decide)⟩) (fun j _ => ⟨h1 65 j (by decide) (by decide), h1 66 j (by decide) (by decide)⟩)
theorem gives_k {X : Nat × (Nat → Int32)} {d : Nat} {J M A : zA} {R : zR} {T : zX} (hR : zRoR R) (hT : LawR X A T) (h1 : A 50 27 = 1) (hJ : zK kT A J) {h dd k m c p : Int} (e0 : J 67 0 = h) (e1 : J 67 1 = dd) (e2 : J 67 2 = k) (e3 : J 67 3 = m) (e4 : J 67 4 = c) (e5 : J 67 5 = p) (r1 : -2147483648 ≤ h ∧ h < 2147483648) (r2 : -2147483648 ≤ dd ∧ dd < 2147483648) (r3 : -2147483648 ≤ k ∧ k < 2147483648) (r4 : -2147483648 ≤ m ∧ m < 2147483648) (r5 : -2147483648 ≤ c ∧ c < 2147483648) (r6 : -2147483648 ≤ p ∧ p < 2147483648) : zW X (d + 4) 181 0 (gEn 181 [.ref 50, zi 0]) [] J M R (zPk (T h dd k m c p) A M R) := by
  subst e0 e1 e2 e3 e4 e5
  rcases hT with ⟨e, ht⟩ | ⟨e, hg⟩
  · exfalso; omega
  · have e := hg d J M R hR (hJ 64 0 rfl) (fun j _ => ⟨hJ 62 j rfl, hJ 63 j rfl⟩) (fun j _ => ⟨hJ 65 j rfl, hJ 66 j rfl⟩) r1 r2 r3 r4 r5 r6
    refine gW_mono e (fun r σ q => zQ_m (fun r J2 M2 R2 hr => ?_) q)
    exact ⟨hr.1, zK_t hJ hr.2.1, hr.2.2⟩
theorem hearsBy_1 {X : Nat × (Nat → Int32)} {d : Nat} {J M : zA} {R : zR} {A : zA} {N : Int → Int → Int} {n : Int} (hR : zRoR R) (hJ : zK kT A J) (hA : rN A = N) (hz : A 50 1 = n) (hN : zNr n N) {T : zX} (hT : LawR X A T) (hTr : Tok T) {p k m : Int} (hp : 0 ≤ p ∧ p < n) (hk : -2147483648 ≤ k ∧ k < 2147483648) (hm : 0 ≤ m ∧ m ≤ 10000) (e1 : A 50 27 = 1) : zW X (d + 5) 183 0 (gEn 183 [(.ref 50), (zi p), (zi k), (zi m)]) [] J M R (zPk (tw T N p k m) A M R) := by
  have q := zNn hN
  show zW _ _ _ _ [some (.ref 50), some (zi p), some (zi k), some (zi m), none, none] _ _ _ _ _
  refine z_aload0 gi_183_0 ?_
  refine z_getR (r := 56) gi_183_1 gk_50 (hR _ rm_50_7 (by decide)) ?_
  refine z_pushJ gp_183_4 ?_
  have q1 := zN6 hN
  refine z_iald (v := N 0 6) gi_183_5 gk_56 (by decide) (by decide) (rg_1 hJ hA) ?_
  refine z_iload3 gi_183_6 ?_
  refine z_icmp_le gi_183_7 (by omega) (by omega) (fun h2 => ?_) (fun h2 => ?_)
  · refine z_pushJ gp_183_21 ?_
    refine z_istore (ls1 := [some (.ref 50), some (zi p), some (zi k), some (zi m), some (zi 0), none]) gi_183_22 rfl ?_
    refine z_iload4 gi_183_24 ?_
    refine z_if_leT gi_183_26 zr_0 (by decide) ?_
    refine z_aload0 gi_183_45 ?_
    refine z_getR (r := 55) gi_183_46 gk_50 (hR _ rm_50_6 (by decide)) ?_
    refine z_iload1 gi_183_49 ?_
    have q3 := zN4 hN p
    refine z_iald (v := N p 4) gi_183_50 gk_55 (by decide) (by omega) (rd_4 hJ hA hz (by omega)) ?_
    refine z_if_ne gi_183_51 (by omega) (fun h4 => ?_) (fun h4 => ?_)
    · refine z_pushJ gp_183_58 ?_
      refine z_istore (ls1 := [some (.ref 50), some (zi p), some (zi k), some (zi m), some (zi 0), some (zi 0)]) gi_183_59 rfl ?_
      refine z_aload0 gi_183_61 ?_
      refine z_getI (v := 1) gi_183_62 gk_50 ((hJ 50 27 rfl).trans e1) ?_
      refine z_if_eqF gi_183_65 zr_1 (by decide) ?_
      refine z_aload0 gi_183_68 ?_
      refine z_getR (r := 67) gi_183_69 gk_50 (hR _ rm_50_25 (by decide)) ?_
      refine z_pushJ gp_183_72 ?_
      refine z_aload0 gi_183_73 ?_
      refine z_getR (r := 54) gi_183_74 gk_50 (hR _ rm_50_5 (by decide)) ?_
      refine z_iload1 gi_183_77 ?_
      have q5 := zN3 hN p
      refine z_iald (v := N p 3) gi_183_78 gk_54 (by decide) (by omega) (rd_3 hJ hA hz (by omega)) ?_
      refine z_iast (e := N p 3) gi_183_79 gk_67 (by decide) (by decide) rfl ?_
      refine z_aload0 gi_183_80 ?_
      refine z_getR (r := 67) gi_183_81 gk_50 (hR _ rm_50_25 (by decide)) ?_
      refine z_pushJ gp_183_84 ?_
      refine z_aload0 gi_183_85 ?_
      refine z_getR (r := 55) gi_183_86 gk_50 (hR _ rm_50_6 (by decide)) ?_
      refine z_iload1 gi_183_89 ?_
      have q6 := zN4 hN p
      refine z_iald (v := N p 4) gi_183_90 gk_55 (by decide) (by omega) ((zU_n (by decide)).trans (rd_4 hJ hA hz (by omega))) ?_
      refine z_iast (e := N p 4) gi_183_91 gk_67 (by decide) (by decide) rfl ?_
      refine z_aload0 gi_183_92 ?_
      refine z_getR (r := 67) gi_183_93 gk_50 (hR _ rm_50_25 (by decide)) ?_
      refine z_pushJ gp_183_96 ?_
      refine z_iload2 gi_183_97 ?_
      refine z_iast (e := k) gi_183_98 gk_67 (by decide) (by decide) rfl ?_
      refine z_aload0 gi_183_99 ?_
      refine z_getR (r := 67) gi_183_100 gk_50 (hR _ rm_50_25 (by decide)) ?_
      refine z_pushJ gp_183_103 ?_
      refine z_iload3 gi_183_104 ?_
      refine z_iast (e := m) gi_183_105 gk_67 (by decide) (by decide) rfl ?_
      refine z_aload0 gi_183_106 ?_
      refine z_getR (r := 67) gi_183_107 gk_50 (hR _ rm_50_25 (by decide)) ?_
      refine z_pushJ gp_183_110 ?_
      refine z_iload4 gi_183_111 ?_
      refine z_iast (e := 0) gi_183_113 gk_67 (by decide) (by decide) rfl ?_
      refine z_aload0 gi_183_114 ?_
      refine z_getR (r := 67) gi_183_115 gk_50 (hR _ rm_50_25 (by decide)) ?_
      refine z_pushJ gp_183_118 ?_
      refine z_iload1 gi_183_119 ?_
      refine z_iast (e := p) gi_183_120 gk_67 (by decide) (by decide) rfl ?_
      refine z_aload0 gi_183_121 ?_
      refine z_pushJ gp_183_122 ?_
      refine z_callVk (As := [_]) (v := T (N p 3) (N p 4) k m 0 p) gi_183_123 rfl gk_50 (Nat.le_of_ble_eq_true rfl) (Nat.le_of_ble_eq_true rfl) (gives_k hR hT (by omega) (zK_x (a := 67) (x := 5) (v := p) (zK_x (a := 67) (x := 4) (v := 0) (zK_x (a := 67) (x := 3) (v := m) (zK_x (a := 67) (x := 2) (v := k) (zK_x (a := 67) (x := 1) (v := N p 4) (zK_x (a := 67) (x := 0) (v := N p 3) hJ rfl) rfl) rfl) rfl) rfl) rfl) rfl rfl rfl rfl rfl rfl (by omega) (by omega) (by omega) (by omega) (by omega) (by omega)) (fun J2 hJ2 => ?_)
      have q7 := hTr (N p 3) (N p 4) k m 0 p
      refine z_istore (ls1 := [some (.ref 50), some (zi p), some (zi k), some (zi m), some (zi 0), some (zi (T (N p 3) (N p 4) k m 0 p))]) gi_183_126 rfl ?_
      refine z_iload5 gi_183_128 ?_
      refine z_if_ge gi_183_130 (by omega) (fun h8 => ?_) (fun h8 => ?_)
      · refine z_iload5 gi_183_137 ?_
        refine z_pushJ gp_183_139 ?_
        refine z_icmp_le gi_183_141 (by omega) zr_12 (fun h9 => ?_) (fun h9 => ?_)
        · refine z_iload5 gi_183_149 ?_
          refine z_iret gi_183_151 gr_183 ?_
          refine ⟨congrArg (fun v => some (zi v)) ?_, hJ2, rfl, rfl⟩
          unfold tw sCur
          (repeat' split) <;> first | rfl | omega
        · refine z_pushJ gp_183_144 ?_
          refine z_goto gi_183_146 ?_
          refine z_iret gi_183_151 gr_183 ?_
          refine ⟨congrArg (fun v => some (zi v)) ?_, hJ2, rfl, rfl⟩
          unfold tw sCur
          (repeat' split) <;> first | rfl | omega
      · refine z_pushJ gp_183_133 ?_
        refine z_goto gi_183_134 ?_
        refine z_iret gi_183_151 gr_183 ?_
        refine ⟨congrArg (fun v => some (zi v)) ?_, hJ2, rfl, rfl⟩
        unfold tw sCur
        (repeat' split) <;> first | rfl | omega
    · refine z_pushJ gp_183_54 ?_
      refine z_goto gi_183_55 ?_
      refine z_istore (ls1 := [some (.ref 50), some (zi p), some (zi k), some (zi m), some (zi 0), some (zi 1)]) gi_183_59 rfl ?_
      refine z_aload0 gi_183_61 ?_
      refine z_getI (v := 1) gi_183_62 gk_50 ((hJ 50 27 rfl).trans e1) ?_
      refine z_if_eqF gi_183_65 zr_1 (by decide) ?_
      refine z_aload0 gi_183_68 ?_
      refine z_getR (r := 67) gi_183_69 gk_50 (hR _ rm_50_25 (by decide)) ?_
      refine z_pushJ gp_183_72 ?_
      refine z_aload0 gi_183_73 ?_
      refine z_getR (r := 54) gi_183_74 gk_50 (hR _ rm_50_5 (by decide)) ?_
      refine z_iload1 gi_183_77 ?_
      have q10 := zN3 hN p
      refine z_iald (v := N p 3) gi_183_78 gk_54 (by decide) (by omega) (rd_3 hJ hA hz (by omega)) ?_
      refine z_iast (e := N p 3) gi_183_79 gk_67 (by decide) (by decide) rfl ?_
      refine z_aload0 gi_183_80 ?_
      refine z_getR (r := 67) gi_183_81 gk_50 (hR _ rm_50_25 (by decide)) ?_
      refine z_pushJ gp_183_84 ?_
      refine z_aload0 gi_183_85 ?_
      refine z_getR (r := 55) gi_183_86 gk_50 (hR _ rm_50_6 (by decide)) ?_
      refine z_iload1 gi_183_89 ?_
      have q11 := zN4 hN p
      refine z_iald (v := N p 4) gi_183_90 gk_55 (by decide) (by omega) ((zU_n (by decide)).trans (rd_4 hJ hA hz (by omega))) ?_
      refine z_iast (e := N p 4) gi_183_91 gk_67 (by decide) (by decide) rfl ?_
      refine z_aload0 gi_183_92 ?_
      refine z_getR (r := 67) gi_183_93 gk_50 (hR _ rm_50_25 (by decide)) ?_
      refine z_pushJ gp_183_96 ?_
      refine z_iload2 gi_183_97 ?_
      refine z_iast (e := k) gi_183_98 gk_67 (by decide) (by decide) rfl ?_
      refine z_aload0 gi_183_99 ?_
      refine z_getR (r := 67) gi_183_100 gk_50 (hR _ rm_50_25 (by decide)) ?_
      refine z_pushJ gp_183_103 ?_
      refine z_iload3 gi_183_104 ?_
      refine z_iast (e := m) gi_183_105 gk_67 (by decide) (by decide) rfl ?_
      refine z_aload0 gi_183_106 ?_
      refine z_getR (r := 67) gi_183_107 gk_50 (hR _ rm_50_25 (by decide)) ?_
      refine z_pushJ gp_183_110 ?_
      refine z_iload4 gi_183_111 ?_
      refine z_iast (e := 0) gi_183_113 gk_67 (by decide) (by decide) rfl ?_
      refine z_aload0 gi_183_114 ?_
      refine z_getR (r := 67) gi_183_115 gk_50 (hR _ rm_50_25 (by decide)) ?_
      refine z_pushJ gp_183_118 ?_
      refine z_iload1 gi_183_119 ?_
      refine z_iast (e := p) gi_183_120 gk_67 (by decide) (by decide) rfl ?_
      refine z_aload0 gi_183_121 ?_
      refine z_pushJ gp_183_122 ?_
      refine z_callVk (As := [_]) (v := T (N p 3) (N p 4) k m 0 p) gi_183_123 rfl gk_50 (Nat.le_of_ble_eq_true rfl) (Nat.le_of_ble_eq_true rfl) (gives_k hR hT (by omega) (zK_x (a := 67) (x := 5) (v := p) (zK_x (a := 67) (x := 4) (v := 0) (zK_x (a := 67) (x := 3) (v := m) (zK_x (a := 67) (x := 2) (v := k) (zK_x (a := 67) (x := 1) (v := N p 4) (zK_x (a := 67) (x := 0) (v := N p 3) hJ rfl) rfl) rfl) rfl) rfl) rfl) rfl rfl rfl rfl rfl rfl (by omega) (by omega) (by omega) (by omega) (by omega) (by omega)) (fun J2 hJ2 => ?_)
      have q12 := hTr (N p 3) (N p 4) k m 0 p
      refine z_istore (ls1 := [some (.ref 50), some (zi p), some (zi k), some (zi m), some (zi 0), some (zi (T (N p 3) (N p 4) k m 0 p))]) gi_183_126 rfl ?_
      refine z_iload5 gi_183_128 ?_
      refine z_if_ge gi_183_130 (by omega) (fun h13 => ?_) (fun h13 => ?_)
      · refine z_iload5 gi_183_137 ?_
        refine z_pushJ gp_183_139 ?_
        refine z_icmp_le gi_183_141 (by omega) zr_12 (fun h14 => ?_) (fun h14 => ?_)
        · refine z_iload5 gi_183_149 ?_
          refine z_iret gi_183_151 gr_183 ?_
          refine ⟨congrArg (fun v => some (zi v)) ?_, hJ2, rfl, rfl⟩
          unfold tw sCur
          (repeat' split) <;> first | rfl | omega
        · refine z_pushJ gp_183_144 ?_
          refine z_goto gi_183_146 ?_
          refine z_iret gi_183_151 gr_183 ?_
          refine ⟨congrArg (fun v => some (zi v)) ?_, hJ2, rfl, rfl⟩
          unfold tw sCur
          (repeat' split) <;> first | rfl | omega
      · refine z_pushJ gp_183_133 ?_
        refine z_goto gi_183_134 ?_
        refine z_iret gi_183_151 gr_183 ?_
        refine ⟨congrArg (fun v => some (zi v)) ?_, hJ2, rfl, rfl⟩
        unfold tw sCur
        (repeat' split) <;> first | rfl | omega
  · refine z_aload0 gi_183_10 ?_
    refine z_getR (r := 56) gi_183_11 gk_50 (hR _ rm_50_7 (by decide)) ?_
    refine z_pushJ gp_183_14 ?_
    have q15 := zN6 hN
    refine z_iald (v := N 0 6) gi_183_15 gk_56 (by decide) (by decide) (rg_1 hJ hA) ?_
    refine z_iload3 gi_183_16 ?_
    refine z_isub (e := (N 0 6) - m) gi_183_17 rfl ?_
    refine z_goto gi_183_18 ?_
    refine z_istore (ls1 := [some (.ref 50), some (zi p), some (zi k), some (zi m), some (zi ((N 0 6) - m)), none]) gi_183_22 rfl ?_
    refine z_iload4 gi_183_24 ?_
    refine z_if_le gi_183_26 (by omega) (fun h16 => ?_) (fun h16 => ?_)
    · refine z_aload0 gi_183_45 ?_
      refine z_getR (r := 55) gi_183_46 gk_50 (hR _ rm_50_6 (by decide)) ?_
      refine z_iload1 gi_183_49 ?_
      have q17 := zN4 hN p
      refine z_iald (v := N p 4) gi_183_50 gk_55 (by decide) (by omega) (rd_4 hJ hA hz (by omega)) ?_
      refine z_if_ne gi_183_51 (by omega) (fun h18 => ?_) (fun h18 => ?_)
      · refine z_pushJ gp_183_58 ?_
        refine z_istore (ls1 := [some (.ref 50), some (zi p), some (zi k), some (zi m), some (zi ((N 0 6) - m)), some (zi 0)]) gi_183_59 rfl ?_
        refine z_aload0 gi_183_61 ?_
        refine z_getI (v := 1) gi_183_62 gk_50 ((hJ 50 27 rfl).trans e1) ?_
        refine z_if_eqF gi_183_65 zr_1 (by decide) ?_
        refine z_aload0 gi_183_68 ?_
        refine z_getR (r := 67) gi_183_69 gk_50 (hR _ rm_50_25 (by decide)) ?_
        refine z_pushJ gp_183_72 ?_
        refine z_aload0 gi_183_73 ?_
        refine z_getR (r := 54) gi_183_74 gk_50 (hR _ rm_50_5 (by decide)) ?_
        refine z_iload1 gi_183_77 ?_
        have q19 := zN3 hN p
        refine z_iald (v := N p 3) gi_183_78 gk_54 (by decide) (by omega) (rd_3 hJ hA hz (by omega)) ?_
        refine z_iast (e := N p 3) gi_183_79 gk_67 (by decide) (by decide) rfl ?_
        refine z_aload0 gi_183_80 ?_
        refine z_getR (r := 67) gi_183_81 gk_50 (hR _ rm_50_25 (by decide)) ?_
        refine z_pushJ gp_183_84 ?_
        refine z_aload0 gi_183_85 ?_
        refine z_getR (r := 55) gi_183_86 gk_50 (hR _ rm_50_6 (by decide)) ?_
        refine z_iload1 gi_183_89 ?_
        have q20 := zN4 hN p
        refine z_iald (v := N p 4) gi_183_90 gk_55 (by decide) (by omega) ((zU_n (by decide)).trans (rd_4 hJ hA hz (by omega))) ?_
        refine z_iast (e := N p 4) gi_183_91 gk_67 (by decide) (by decide) rfl ?_
        refine z_aload0 gi_183_92 ?_
        refine z_getR (r := 67) gi_183_93 gk_50 (hR _ rm_50_25 (by decide)) ?_
        refine z_pushJ gp_183_96 ?_
        refine z_iload2 gi_183_97 ?_
        refine z_iast (e := k) gi_183_98 gk_67 (by decide) (by decide) rfl ?_
        refine z_aload0 gi_183_99 ?_
        refine z_getR (r := 67) gi_183_100 gk_50 (hR _ rm_50_25 (by decide)) ?_
        refine z_pushJ gp_183_103 ?_
        refine z_iload3 gi_183_104 ?_
        refine z_iast (e := m) gi_183_105 gk_67 (by decide) (by decide) rfl ?_
        refine z_aload0 gi_183_106 ?_
        refine z_getR (r := 67) gi_183_107 gk_50 (hR _ rm_50_25 (by decide)) ?_
        refine z_pushJ gp_183_110 ?_
        refine z_iload4 gi_183_111 ?_
        refine z_iast (e := (N 0 6) - m) gi_183_113 gk_67 (by decide) (by decide) rfl ?_
        refine z_aload0 gi_183_114 ?_
        refine z_getR (r := 67) gi_183_115 gk_50 (hR _ rm_50_25 (by decide)) ?_
        refine z_pushJ gp_183_118 ?_
        refine z_iload1 gi_183_119 ?_
        refine z_iast (e := p) gi_183_120 gk_67 (by decide) (by decide) rfl ?_
        refine z_aload0 gi_183_121 ?_
        refine z_pushJ gp_183_122 ?_
        refine z_callVk (As := [_]) (v := T (N p 3) (N p 4) k m ((N 0 6) - m) p) gi_183_123 rfl gk_50 (Nat.le_of_ble_eq_true rfl) (Nat.le_of_ble_eq_true rfl) (gives_k hR hT (by omega) (zK_x (a := 67) (x := 5) (v := p) (zK_x (a := 67) (x := 4) (v := (N 0 6) - m) (zK_x (a := 67) (x := 3) (v := m) (zK_x (a := 67) (x := 2) (v := k) (zK_x (a := 67) (x := 1) (v := N p 4) (zK_x (a := 67) (x := 0) (v := N p 3) hJ rfl) rfl) rfl) rfl) rfl) rfl) rfl rfl rfl rfl rfl rfl (by omega) (by omega) (by omega) (by omega) (by omega) (by omega)) (fun J2 hJ2 => ?_)
        have q21 := hTr (N p 3) (N p 4) k m ((N 0 6) - m) p
        refine z_istore (ls1 := [some (.ref 50), some (zi p), some (zi k), some (zi m), some (zi ((N 0 6) - m)), some (zi (T (N p 3) (N p 4) k m ((N 0 6) - m) p))]) gi_183_126 rfl ?_
        refine z_iload5 gi_183_128 ?_
        refine z_if_ge gi_183_130 (by omega) (fun h22 => ?_) (fun h22 => ?_)
        · refine z_iload5 gi_183_137 ?_
          refine z_pushJ gp_183_139 ?_
          refine z_icmp_le gi_183_141 (by omega) zr_12 (fun h23 => ?_) (fun h23 => ?_)
          · refine z_iload5 gi_183_149 ?_
            refine z_iret gi_183_151 gr_183 ?_
            refine ⟨congrArg (fun v => some (zi v)) ?_, hJ2, rfl, rfl⟩
            unfold tw sCur
            (repeat' split) <;> first | rfl | omega
          · refine z_pushJ gp_183_144 ?_
            refine z_goto gi_183_146 ?_
            refine z_iret gi_183_151 gr_183 ?_
            refine ⟨congrArg (fun v => some (zi v)) ?_, hJ2, rfl, rfl⟩
            unfold tw sCur
            (repeat' split) <;> first | rfl | omega
        · refine z_pushJ gp_183_133 ?_
          refine z_goto gi_183_134 ?_
          refine z_iret gi_183_151 gr_183 ?_
          refine ⟨congrArg (fun v => some (zi v)) ?_, hJ2, rfl, rfl⟩
          unfold tw sCur
          (repeat' split) <;> first | rfl | omega
      · refine z_pushJ gp_183_54 ?_
        refine z_goto gi_183_55 ?_
        refine z_istore (ls1 := [some (.ref 50), some (zi p), some (zi k), some (zi m), some (zi ((N 0 6) - m)), some (zi 1)]) gi_183_59 rfl ?_
        refine z_aload0 gi_183_61 ?_
        refine z_getI (v := 1) gi_183_62 gk_50 ((hJ 50 27 rfl).trans e1) ?_
        refine z_if_eqF gi_183_65 zr_1 (by decide) ?_
        refine z_aload0 gi_183_68 ?_
        refine z_getR (r := 67) gi_183_69 gk_50 (hR _ rm_50_25 (by decide)) ?_
        refine z_pushJ gp_183_72 ?_
        refine z_aload0 gi_183_73 ?_
        refine z_getR (r := 54) gi_183_74 gk_50 (hR _ rm_50_5 (by decide)) ?_
        refine z_iload1 gi_183_77 ?_
        have q24 := zN3 hN p
        refine z_iald (v := N p 3) gi_183_78 gk_54 (by decide) (by omega) (rd_3 hJ hA hz (by omega)) ?_
        refine z_iast (e := N p 3) gi_183_79 gk_67 (by decide) (by decide) rfl ?_
        refine z_aload0 gi_183_80 ?_
        refine z_getR (r := 67) gi_183_81 gk_50 (hR _ rm_50_25 (by decide)) ?_
        refine z_pushJ gp_183_84 ?_
        refine z_aload0 gi_183_85 ?_
        refine z_getR (r := 55) gi_183_86 gk_50 (hR _ rm_50_6 (by decide)) ?_
        refine z_iload1 gi_183_89 ?_
        have q25 := zN4 hN p
        refine z_iald (v := N p 4) gi_183_90 gk_55 (by decide) (by omega) ((zU_n (by decide)).trans (rd_4 hJ hA hz (by omega))) ?_
        refine z_iast (e := N p 4) gi_183_91 gk_67 (by decide) (by decide) rfl ?_
        refine z_aload0 gi_183_92 ?_
        refine z_getR (r := 67) gi_183_93 gk_50 (hR _ rm_50_25 (by decide)) ?_
        refine z_pushJ gp_183_96 ?_
        refine z_iload2 gi_183_97 ?_
        refine z_iast (e := k) gi_183_98 gk_67 (by decide) (by decide) rfl ?_
        refine z_aload0 gi_183_99 ?_
        refine z_getR (r := 67) gi_183_100 gk_50 (hR _ rm_50_25 (by decide)) ?_
        refine z_pushJ gp_183_103 ?_
        refine z_iload3 gi_183_104 ?_
        refine z_iast (e := m) gi_183_105 gk_67 (by decide) (by decide) rfl ?_
        refine z_aload0 gi_183_106 ?_
        refine z_getR (r := 67) gi_183_107 gk_50 (hR _ rm_50_25 (by decide)) ?_
        refine z_pushJ gp_183_110 ?_
        refine z_iload4 gi_183_111 ?_
        refine z_iast (e := (N 0 6) - m) gi_183_113 gk_67 (by decide) (by decide) rfl ?_
        refine z_aload0 gi_183_114 ?_
        refine z_getR (r := 67) gi_183_115 gk_50 (hR _ rm_50_25 (by decide)) ?_
        refine z_pushJ gp_183_118 ?_
        refine z_iload1 gi_183_119 ?_
        refine z_iast (e := p) gi_183_120 gk_67 (by decide) (by decide) rfl ?_
        refine z_aload0 gi_183_121 ?_
        refine z_pushJ gp_183_122 ?_
        refine z_callVk (As := [_]) (v := T (N p 3) (N p 4) k m ((N 0 6) - m) p) gi_183_123 rfl gk_50 (Nat.le_of_ble_eq_true rfl) (Nat.le_of_ble_eq_true rfl) (gives_k hR hT (by omega) (zK_x (a := 67) (x := 5) (v := p) (zK_x (a := 67) (x := 4) (v := (N 0 6) - m) (zK_x (a := 67) (x := 3) (v := m) (zK_x (a := 67) (x := 2) (v := k) (zK_x (a := 67) (x := 1) (v := N p 4) (zK_x (a := 67) (x := 0) (v := N p 3) hJ rfl) rfl) rfl) rfl) rfl) rfl) rfl rfl rfl rfl rfl rfl (by omega) (by omega) (by omega) (by omega) (by omega) (by omega)) (fun J2 hJ2 => ?_)
        have q26 := hTr (N p 3) (N p 4) k m ((N 0 6) - m) p
        refine z_istore (ls1 := [some (.ref 50), some (zi p), some (zi k), some (zi m), some (zi ((N 0 6) - m)), some (zi (T (N p 3) (N p 4) k m ((N 0 6) - m) p))]) gi_183_126 rfl ?_
        refine z_iload5 gi_183_128 ?_
        refine z_if_ge gi_183_130 (by omega) (fun h27 => ?_) (fun h27 => ?_)
        · refine z_iload5 gi_183_137 ?_
          refine z_pushJ gp_183_139 ?_
          refine z_icmp_le gi_183_141 (by omega) zr_12 (fun h28 => ?_) (fun h28 => ?_)
          · refine z_iload5 gi_183_149 ?_
            refine z_iret gi_183_151 gr_183 ?_
            refine ⟨congrArg (fun v => some (zi v)) ?_, hJ2, rfl, rfl⟩
            unfold tw sCur
            (repeat' split) <;> first | rfl | omega
          · refine z_pushJ gp_183_144 ?_
            refine z_goto gi_183_146 ?_
            refine z_iret gi_183_151 gr_183 ?_
            refine ⟨congrArg (fun v => some (zi v)) ?_, hJ2, rfl, rfl⟩
            unfold tw sCur
            (repeat' split) <;> first | rfl | omega
        · refine z_pushJ gp_183_133 ?_
          refine z_goto gi_183_134 ?_
          refine z_iret gi_183_151 gr_183 ?_
          refine ⟨congrArg (fun v => some (zi v)) ?_, hJ2, rfl, rfl⟩
          unfold tw sCur
          (repeat' split) <;> first | rfl | omega
    · refine z_aload0 gi_183_29 ?_
      refine z_getR (r := 54) gi_183_30 gk_50 (hR _ rm_50_5 (by decide)) ?_
      refine z_iload1 gi_183_33 ?_
      have q29 := zN3 hN p
      refine z_iald (v := N p 3) gi_183_34 gk_54 (by decide) (by omega) (rd_3 hJ hA hz (by omega)) ?_
      refine z_aload0 gi_183_35 ?_
      refine z_getR (r := 55) gi_183_36 gk_50 (hR _ rm_50_6 (by decide)) ?_
      refine z_iload1 gi_183_39 ?_
      have q30 := zN4 hN p
      refine z_iald (v := N p 4) gi_183_40 gk_55 (by decide) (by omega) (rd_4 hJ hA hz (by omega)) ?_
      refine z_isub (e := (N p 3) - (N p 4)) gi_183_41 rfl ?_
      refine z_goto gi_183_42 ?_
      refine z_istore (ls1 := [some (.ref 50), some (zi p), some (zi k), some (zi m), some (zi ((N 0 6) - m)), some (zi ((N p 3) - (N p 4)))]) gi_183_59 rfl ?_
      refine z_aload0 gi_183_61 ?_
      refine z_getI (v := 1) gi_183_62 gk_50 ((hJ 50 27 rfl).trans e1) ?_
      refine z_if_eqF gi_183_65 zr_1 (by decide) ?_
      refine z_aload0 gi_183_68 ?_
      refine z_getR (r := 67) gi_183_69 gk_50 (hR _ rm_50_25 (by decide)) ?_
      refine z_pushJ gp_183_72 ?_
      refine z_aload0 gi_183_73 ?_
      refine z_getR (r := 54) gi_183_74 gk_50 (hR _ rm_50_5 (by decide)) ?_
      refine z_iload1 gi_183_77 ?_
      have q31 := zN3 hN p
      refine z_iald (v := N p 3) gi_183_78 gk_54 (by decide) (by omega) (rd_3 hJ hA hz (by omega)) ?_
      refine z_iast (e := N p 3) gi_183_79 gk_67 (by decide) (by decide) rfl ?_
      refine z_aload0 gi_183_80 ?_
      refine z_getR (r := 67) gi_183_81 gk_50 (hR _ rm_50_25 (by decide)) ?_
      refine z_pushJ gp_183_84 ?_
      refine z_aload0 gi_183_85 ?_
      refine z_getR (r := 55) gi_183_86 gk_50 (hR _ rm_50_6 (by decide)) ?_
      refine z_iload1 gi_183_89 ?_
      have q32 := zN4 hN p
      refine z_iald (v := N p 4) gi_183_90 gk_55 (by decide) (by omega) ((zU_n (by decide)).trans (rd_4 hJ hA hz (by omega))) ?_
      refine z_iast (e := N p 4) gi_183_91 gk_67 (by decide) (by decide) rfl ?_
      refine z_aload0 gi_183_92 ?_
      refine z_getR (r := 67) gi_183_93 gk_50 (hR _ rm_50_25 (by decide)) ?_
      refine z_pushJ gp_183_96 ?_
      refine z_iload2 gi_183_97 ?_
      refine z_iast (e := k) gi_183_98 gk_67 (by decide) (by decide) rfl ?_
      refine z_aload0 gi_183_99 ?_
      refine z_getR (r := 67) gi_183_100 gk_50 (hR _ rm_50_25 (by decide)) ?_
      refine z_pushJ gp_183_103 ?_
      refine z_iload3 gi_183_104 ?_
      refine z_iast (e := m) gi_183_105 gk_67 (by decide) (by decide) rfl ?_
      refine z_aload0 gi_183_106 ?_
      refine z_getR (r := 67) gi_183_107 gk_50 (hR _ rm_50_25 (by decide)) ?_
      refine z_pushJ gp_183_110 ?_
      refine z_iload4 gi_183_111 ?_
      refine z_iast (e := (N 0 6) - m) gi_183_113 gk_67 (by decide) (by decide) rfl ?_
      refine z_aload0 gi_183_114 ?_
      refine z_getR (r := 67) gi_183_115 gk_50 (hR _ rm_50_25 (by decide)) ?_
      refine z_pushJ gp_183_118 ?_
      refine z_iload1 gi_183_119 ?_
      refine z_iast (e := p) gi_183_120 gk_67 (by decide) (by decide) rfl ?_
      refine z_aload0 gi_183_121 ?_
      refine z_pushJ gp_183_122 ?_
      refine z_callVk (As := [_]) (v := T (N p 3) (N p 4) k m ((N 0 6) - m) p) gi_183_123 rfl gk_50 (Nat.le_of_ble_eq_true rfl) (Nat.le_of_ble_eq_true rfl) (gives_k hR hT (by omega) (zK_x (a := 67) (x := 5) (v := p) (zK_x (a := 67) (x := 4) (v := (N 0 6) - m) (zK_x (a := 67) (x := 3) (v := m) (zK_x (a := 67) (x := 2) (v := k) (zK_x (a := 67) (x := 1) (v := N p 4) (zK_x (a := 67) (x := 0) (v := N p 3) hJ rfl) rfl) rfl) rfl) rfl) rfl) rfl rfl rfl rfl rfl rfl (by omega) (by omega) (by omega) (by omega) (by omega) (by omega)) (fun J2 hJ2 => ?_)
      have q33 := hTr (N p 3) (N p 4) k m ((N 0 6) - m) p
      refine z_istore (ls1 := [some (.ref 50), some (zi p), some (zi k), some (zi m), some (zi ((N 0 6) - m)), some (zi (T (N p 3) (N p 4) k m ((N 0 6) - m) p))]) gi_183_126 rfl ?_
      refine z_iload5 gi_183_128 ?_
      refine z_if_ge gi_183_130 (by omega) (fun h34 => ?_) (fun h34 => ?_)
      · refine z_iload5 gi_183_137 ?_
        refine z_pushJ gp_183_139 ?_
        refine z_icmp_le gi_183_141 (by omega) zr_12 (fun h35 => ?_) (fun h35 => ?_)
        · refine z_iload5 gi_183_149 ?_
          refine z_iret gi_183_151 gr_183 ?_
          refine ⟨congrArg (fun v => some (zi v)) ?_, hJ2, rfl, rfl⟩
          unfold tw sCur
          (repeat' split) <;> first | rfl | omega
        · refine z_pushJ gp_183_144 ?_
          refine z_goto gi_183_146 ?_
          refine z_iret gi_183_151 gr_183 ?_
          refine ⟨congrArg (fun v => some (zi v)) ?_, hJ2, rfl, rfl⟩
          unfold tw sCur
          (repeat' split) <;> first | rfl | omega
      · refine z_pushJ gp_183_133 ?_
        refine z_goto gi_183_134 ?_
        refine z_iret gi_183_151 gr_183 ?_
        refine ⟨congrArg (fun v => some (zi v)) ?_, hJ2, rfl, rfl⟩
        unfold tw sCur
        (repeat' split) <;> first | rfl | omega
theorem hearsBy_0 {X : Nat × (Nat → Int32)} {d : Nat} {J M : zA} {R : zR} {A : zA} {N : Int → Int → Int} {n : Int} (hR : zRoR R) (hJ : zK kT A J) (hA : rN A = N) (hz : A 50 1 = n) (hN : zNr n N) {T : zX} (hT : LawR X A T) (hTr : Tok T) {p k m : Int} (hp : 0 ≤ p ∧ p < n) (hk : -2147483648 ≤ k ∧ k < 2147483648) (hm : 0 ≤ m ∧ m ≤ 10000) (e0 : A 50 27 = 0) (ht : T = T0) : zW X (d + 5) 183 0 (gEn 183 [(.ref 50), (zi p), (zi k), (zi m)]) [] J M R (zPk (tw T N p k m) A M R) := by
  have q := zNn hN
  show zW _ _ _ _ [some (.ref 50), some (zi p), some (zi k), some (zi m), none, none] _ _ _ _ _
  refine z_aload0 gi_183_0 ?_
  refine z_getR (r := 56) gi_183_1 gk_50 (hR _ rm_50_7 (by decide)) ?_
  refine z_pushJ gp_183_4 ?_
  have q1 := zN6 hN
  refine z_iald (v := N 0 6) gi_183_5 gk_56 (by decide) (by decide) (rg_1 hJ hA) ?_
  refine z_iload3 gi_183_6 ?_
  refine z_icmp_le gi_183_7 (by omega) (by omega) (fun h2 => ?_) (fun h2 => ?_)
  · refine z_pushJ gp_183_21 ?_
    refine z_istore (ls1 := [some (.ref 50), some (zi p), some (zi k), some (zi m), some (zi 0), none]) gi_183_22 rfl ?_
    refine z_iload4 gi_183_24 ?_
    refine z_if_leT gi_183_26 zr_0 (by decide) ?_
    refine z_aload0 gi_183_45 ?_
    refine z_getR (r := 55) gi_183_46 gk_50 (hR _ rm_50_6 (by decide)) ?_
    refine z_iload1 gi_183_49 ?_
    have q3 := zN4 hN p
    refine z_iald (v := N p 4) gi_183_50 gk_55 (by decide) (by omega) (rd_4 hJ hA hz (by omega)) ?_
    refine z_if_ne gi_183_51 (by omega) (fun h4 => ?_) (fun h4 => ?_)
    · refine z_pushJ gp_183_58 ?_
      refine z_istore (ls1 := [some (.ref 50), some (zi p), some (zi k), some (zi m), some (zi 0), some (zi 0)]) gi_183_59 rfl ?_
      refine z_aload0 gi_183_61 ?_
      refine z_getI (v := 0) gi_183_62 gk_50 ((hJ 50 27 rfl).trans e0) ?_
      refine z_if_eqT gi_183_65 zr_0 (by decide) ?_
      refine z_iload5 gi_183_128 ?_
      refine z_if_geT gi_183_130 zr_0 (by decide) ?_
      refine z_iload5 gi_183_137 ?_
      refine z_pushJ gp_183_139 ?_
      refine z_icmp_leT gi_183_141 zr_0 zr_12 (by decide) ?_
      refine z_iload5 gi_183_149 ?_
      refine z_iret gi_183_151 gr_183 ?_
      refine ⟨congrArg (fun v => some (zi v)) ?_, hJ, rfl, rfl⟩
      subst ht
      have q3 := zN3 hN p
      have q4 := zN4 hN p
      have zt : T0 (N p 3) (N p 4) k m (sCur N m) p = (if 0 < sCur N m then N p 3 - N p 4 else if N p 4 = 0 then 1 else 0) := zi_r (by (repeat' split) <;> omega)
      unfold tw
      rw [zt]
      unfold sCur
      (repeat' split) <;> first | rfl | omega
    · refine z_pushJ gp_183_54 ?_
      refine z_goto gi_183_55 ?_
      refine z_istore (ls1 := [some (.ref 50), some (zi p), some (zi k), some (zi m), some (zi 0), some (zi 1)]) gi_183_59 rfl ?_
      refine z_aload0 gi_183_61 ?_
      refine z_getI (v := 0) gi_183_62 gk_50 ((hJ 50 27 rfl).trans e0) ?_
      refine z_if_eqT gi_183_65 zr_0 (by decide) ?_
      refine z_iload5 gi_183_128 ?_
      refine z_if_geT gi_183_130 zr_1 (by decide) ?_
      refine z_iload5 gi_183_137 ?_
      refine z_pushJ gp_183_139 ?_
      refine z_icmp_leT gi_183_141 zr_1 zr_12 (by decide) ?_
      refine z_iload5 gi_183_149 ?_
      refine z_iret gi_183_151 gr_183 ?_
      refine ⟨congrArg (fun v => some (zi v)) ?_, hJ, rfl, rfl⟩
      subst ht
      have q3 := zN3 hN p
      have q4 := zN4 hN p
      have zt : T0 (N p 3) (N p 4) k m (sCur N m) p = (if 0 < sCur N m then N p 3 - N p 4 else if N p 4 = 0 then 1 else 0) := zi_r (by (repeat' split) <;> omega)
      unfold tw
      rw [zt]
      unfold sCur
      (repeat' split) <;> first | rfl | omega
  · refine z_aload0 gi_183_10 ?_
    refine z_getR (r := 56) gi_183_11 gk_50 (hR _ rm_50_7 (by decide)) ?_
    refine z_pushJ gp_183_14 ?_
    have q5 := zN6 hN
    refine z_iald (v := N 0 6) gi_183_15 gk_56 (by decide) (by decide) (rg_1 hJ hA) ?_
    refine z_iload3 gi_183_16 ?_
    refine z_isub (e := (N 0 6) - m) gi_183_17 rfl ?_
    refine z_goto gi_183_18 ?_
    refine z_istore (ls1 := [some (.ref 50), some (zi p), some (zi k), some (zi m), some (zi ((N 0 6) - m)), none]) gi_183_22 rfl ?_
    refine z_iload4 gi_183_24 ?_
    refine z_if_le gi_183_26 (by omega) (fun h6 => ?_) (fun h6 => ?_)
    · refine z_aload0 gi_183_45 ?_
      refine z_getR (r := 55) gi_183_46 gk_50 (hR _ rm_50_6 (by decide)) ?_
      refine z_iload1 gi_183_49 ?_
      have q7 := zN4 hN p
      refine z_iald (v := N p 4) gi_183_50 gk_55 (by decide) (by omega) (rd_4 hJ hA hz (by omega)) ?_
      refine z_if_ne gi_183_51 (by omega) (fun h8 => ?_) (fun h8 => ?_)
      · refine z_pushJ gp_183_58 ?_
        refine z_istore (ls1 := [some (.ref 50), some (zi p), some (zi k), some (zi m), some (zi ((N 0 6) - m)), some (zi 0)]) gi_183_59 rfl ?_
        refine z_aload0 gi_183_61 ?_
        refine z_getI (v := 0) gi_183_62 gk_50 ((hJ 50 27 rfl).trans e0) ?_
        refine z_if_eqT gi_183_65 zr_0 (by decide) ?_
        refine z_iload5 gi_183_128 ?_
        refine z_if_geT gi_183_130 zr_0 (by decide) ?_
        refine z_iload5 gi_183_137 ?_
        refine z_pushJ gp_183_139 ?_
        refine z_icmp_leT gi_183_141 zr_0 zr_12 (by decide) ?_
        refine z_iload5 gi_183_149 ?_
        refine z_iret gi_183_151 gr_183 ?_
        refine ⟨congrArg (fun v => some (zi v)) ?_, hJ, rfl, rfl⟩
        subst ht
        have q3 := zN3 hN p
        have q4 := zN4 hN p
        have zt : T0 (N p 3) (N p 4) k m (sCur N m) p = (if 0 < sCur N m then N p 3 - N p 4 else if N p 4 = 0 then 1 else 0) := zi_r (by (repeat' split) <;> omega)
        unfold tw
        rw [zt]
        unfold sCur
        (repeat' split) <;> first | rfl | omega
      · refine z_pushJ gp_183_54 ?_
        refine z_goto gi_183_55 ?_
        refine z_istore (ls1 := [some (.ref 50), some (zi p), some (zi k), some (zi m), some (zi ((N 0 6) - m)), some (zi 1)]) gi_183_59 rfl ?_
        refine z_aload0 gi_183_61 ?_
        refine z_getI (v := 0) gi_183_62 gk_50 ((hJ 50 27 rfl).trans e0) ?_
        refine z_if_eqT gi_183_65 zr_0 (by decide) ?_
        refine z_iload5 gi_183_128 ?_
        refine z_if_geT gi_183_130 zr_1 (by decide) ?_
        refine z_iload5 gi_183_137 ?_
        refine z_pushJ gp_183_139 ?_
        refine z_icmp_leT gi_183_141 zr_1 zr_12 (by decide) ?_
        refine z_iload5 gi_183_149 ?_
        refine z_iret gi_183_151 gr_183 ?_
        refine ⟨congrArg (fun v => some (zi v)) ?_, hJ, rfl, rfl⟩
        subst ht
        have q3 := zN3 hN p
        have q4 := zN4 hN p
        have zt : T0 (N p 3) (N p 4) k m (sCur N m) p = (if 0 < sCur N m then N p 3 - N p 4 else if N p 4 = 0 then 1 else 0) := zi_r (by (repeat' split) <;> omega)
        unfold tw
        rw [zt]
        unfold sCur
        (repeat' split) <;> first | rfl | omega
    · refine z_aload0 gi_183_29 ?_
      refine z_getR (r := 54) gi_183_30 gk_50 (hR _ rm_50_5 (by decide)) ?_
      refine z_iload1 gi_183_33 ?_
      have q9 := zN3 hN p
      refine z_iald (v := N p 3) gi_183_34 gk_54 (by decide) (by omega) (rd_3 hJ hA hz (by omega)) ?_
      refine z_aload0 gi_183_35 ?_
      refine z_getR (r := 55) gi_183_36 gk_50 (hR _ rm_50_6 (by decide)) ?_
      refine z_iload1 gi_183_39 ?_
      have q10 := zN4 hN p
      refine z_iald (v := N p 4) gi_183_40 gk_55 (by decide) (by omega) (rd_4 hJ hA hz (by omega)) ?_
      refine z_isub (e := (N p 3) - (N p 4)) gi_183_41 rfl ?_
      refine z_goto gi_183_42 ?_
      refine z_istore (ls1 := [some (.ref 50), some (zi p), some (zi k), some (zi m), some (zi ((N 0 6) - m)), some (zi ((N p 3) - (N p 4)))]) gi_183_59 rfl ?_
      refine z_aload0 gi_183_61 ?_
      refine z_getI (v := 0) gi_183_62 gk_50 ((hJ 50 27 rfl).trans e0) ?_
      refine z_if_eqT gi_183_65 zr_0 (by decide) ?_
      refine z_iload5 gi_183_128 ?_
      refine z_if_ge gi_183_130 (by omega) (fun h11 => ?_) (fun h11 => ?_)
      · refine z_iload5 gi_183_137 ?_
        refine z_pushJ gp_183_139 ?_
        refine z_icmp_le gi_183_141 (by omega) zr_12 (fun h12 => ?_) (fun h12 => ?_)
        · refine z_iload5 gi_183_149 ?_
          refine z_iret gi_183_151 gr_183 ?_
          refine ⟨congrArg (fun v => some (zi v)) ?_, hJ, rfl, rfl⟩
          subst ht
          have q3 := zN3 hN p
          have q4 := zN4 hN p
          have zt : T0 (N p 3) (N p 4) k m (sCur N m) p = (if 0 < sCur N m then N p 3 - N p 4 else if N p 4 = 0 then 1 else 0) := zi_r (by (repeat' split) <;> omega)
          unfold tw
          rw [zt]
          unfold sCur
          (repeat' split) <;> first | rfl | omega
        · refine z_pushJ gp_183_144 ?_
          refine z_goto gi_183_146 ?_
          refine z_iret gi_183_151 gr_183 ?_
          refine ⟨congrArg (fun v => some (zi v)) ?_, hJ, rfl, rfl⟩
          subst ht
          have q3 := zN3 hN p
          have q4 := zN4 hN p
          have zt : T0 (N p 3) (N p 4) k m (sCur N m) p = (if 0 < sCur N m then N p 3 - N p 4 else if N p 4 = 0 then 1 else 0) := zi_r (by (repeat' split) <;> omega)
          unfold tw
          rw [zt]
          unfold sCur
          (repeat' split) <;> first | rfl | omega
      · refine z_pushJ gp_183_133 ?_
        refine z_goto gi_183_134 ?_
        refine z_iret gi_183_151 gr_183 ?_
        refine ⟨congrArg (fun v => some (zi v)) ?_, hJ, rfl, rfl⟩
        subst ht
        have q3 := zN3 hN p
        have q4 := zN4 hN p
        have zt : T0 (N p 3) (N p 4) k m (sCur N m) p = (if 0 < sCur N m then N p 3 - N p 4 else if N p 4 = 0 then 1 else 0) := zi_r (by (repeat' split) <;> omega)
        unfold tw
        rw [zt]
        unfold sCur
        (repeat' split) <;> first | rfl | omega
theorem hearsBy_k {X : Nat × (Nat → Int32)} {d : Nat} {J M : zA} {R : zR} {A : zA} {N : Int → Int → Int} {n : Int} (hR : zRoR R) (hJ : zK kT A J) (hA : rN A = N) (hz : A 50 1 = n) (hN : zNr n N) {T : zX} (hT : LawR X A T) (hTr : Tok T) {p k m : Int} (hp : 0 ≤ p ∧ p < n) (hk : -2147483648 ≤ k ∧ k < 2147483648) (hm : 0 ≤ m ∧ m ≤ 10000) : zW X (d + 5) 183 0 (gEn 183 [.ref 50, zi p, zi k, zi m]) [] J M R (zPk (tw T N p k m) A M R) := by
  rcases hT with ⟨e0, ht⟩ | ⟨e1, hg⟩
  · exact hearsBy_0 hR hJ hA hz hN (Or.inl ⟨e0, ht⟩) hTr hp hk hm e0 ht
  · exact hearsBy_1 hR hJ hA hz hN (Or.inr ⟨e1, hg⟩) hTr hp hk hm e1
