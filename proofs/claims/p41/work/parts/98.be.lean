noncomputable abbrev stB (X : Nat × (Nat → Int32)) (d kr : Nat) (as : List Value) : zP := fun r J2 M2 R2 => ∃ v : Int, r = some (zi v) ∧ zW X d kr 0 (gEn kr (.ref 50 :: as)) [] J2 M2 R2 (fun r3 J3 M3 R3 => (∃ v3 : Int, r3 = some (zi v3)) ∧ Rel X J3 M3 R3)
theorem zand_r (x y : Int) : -2147483648 ≤ zand x y ∧ zand x y < 2147483648 := ⟨Int32.le_toInt _, Int32.toInt_lt _⟩
theorem zshl_r (x y : Int) : -2147483648 ≤ zshl x y ∧ zshl x y < 2147483648 := ⟨Int32.le_toInt _, Int32.toInt_lt _⟩
theorem zor_r (x y : Int) : -2147483648 ≤ zor x y ∧ zor x y < 2147483648 := ⟨Int32.le_toInt _, Int32.toInt_lt _⟩
theorem zshl_8 {n : Int} (h : 0 ≤ n ∧ n ≤ 8) : 1 ≤ zshl 1 n ∧ zshl 1 n ≤ 256 := by
  have e : n = 0 ∨ n = 1 ∨ n = 2 ∨ n = 3 ∨ n = 4 ∨ n = 5 ∨ n = 6 ∨ n = 7 ∨ n = 8 := by omega
  rcases e with rfl | rfl | rfl | rfl | rfl | rfl | rfl | rfl | rfl <;> exact ⟨by decide +kernel, by decide +kernel⟩
noncomputable def zbit (u q : Int) : Int := if zand (zshr u q) 1 = 1 then 1 else 0
noncomputable def bc (u : Int) : Int := zbit u 0 + zbit u 1 + zbit u 2 + zbit u 3 + zbit u 4 + zbit u 5 + zbit u 6 + zbit u 7
theorem zbit_r (u q : Int) : 0 ≤ zbit u q ∧ zbit u q ≤ 1 := by unfold zbit; split <;> decide
theorem bc_8 (u : Int) : 0 ≤ bc u ∧ bc u ≤ 8 := by
  have a0 := zbit_r u 0
  have a1 := zbit_r u 1
  have a2 := zbit_r u 2
  have a3 := zbit_r u 3
  have a4 := zbit_r u 4
  have a5 := zbit_r u 5
  have a6 := zbit_r u 6
  have a7 := zbit_r u 7
  unfold bc
  omega
theorem bc_all : ∀ u : Fin 256, ∀ p : Fin 8, zand (zshr ((u.val : Nat) : Int) ((p.val : Nat) : Int)) 1 = 1 ∨ (bc (zor ((u.val : Nat) : Int) (zshl 1 ((p.val : Nat) : Int))) = bc ((u.val : Nat) : Int) + 1 ∧ 0 ≤ zor ((u.val : Nat) : Int) (zshl 1 ((p.val : Nat) : Int)) ∧ zor ((u.val : Nat) : Int) (zshl 1 ((p.val : Nat) : Int)) < 256) := by decide +kernel
theorem bc_s {u p : Int} (hu : 0 ≤ u ∧ u < 256) (hp : 0 ≤ p ∧ p < 8) (h : ¬ zand (zshr u p) 1 = 1) : bc (zor u (zshl 1 p)) = bc u + 1 ∧ 0 ≤ zor u (zshl 1 p) ∧ zor u (zshl 1 p) < 256 := by
  have a := bc_all ⟨u.toNat, by omega⟩ ⟨p.toNat, by omega⟩
  have e1 : ((u.toNat : Nat) : Int) = u := Int.toNat_of_nonneg hu.1
  have e2 : ((p.toNat : Nat) : Int) = p := Int.toNat_of_nonneg hp.1
  simp only [e1, e2] at a
  rcases a with a | a
  · exact absurd a h
  · exact a
theorem la_all : ∀ u : Fin 256, u.val = 0 ∨ (0 ≤ zand ((u.val : Nat) : Int) (((u.val : Nat) : Int) - 1) ∧ zand ((u.val : Nat) : Int) (((u.val : Nat) : Int) - 1) < ((u.val : Nat) : Int) ∧ bc (zand ((u.val : Nat) : Int) (((u.val : Nat) : Int) - 1)) + 1 = bc ((u.val : Nat) : Int)) := by decide +kernel
theorem la_s {u : Int} (hu : 0 < u ∧ u < 256) : 0 ≤ zand u (u - 1) ∧ zand u (u - 1) < 256 ∧ bc (zand u (u - 1)) + 1 = bc u := by
  have a := la_all ⟨u.toNat, by omega⟩
  have e1 : ((u.toNat : Nat) : Int) = u := Int.toNat_of_nonneg (by omega)
  simp only [e1] at a
  rcases a with a | a
  · omega
  · exact ⟨a.1, by omega, a.2.2⟩
theorem cN_S {A J : zA} (h : zK kS A J) : cN J = cN A := by
  funext p w
  unfold cN
  rw [h 8 2 rfl, h 9 _ rfl, h 9 _ rfl]
theorem LawC_S {X : Nat × (Nat → Int32)} {A J : zA} {R : zR} {T : zX} (h : LawC X A R T) (hk : zK kS A J) : LawC X J R T := LawC_A h (hk 1 5 rfl) (fun j => hk 3 j rfl) (fun j => hk 4 j rfl) (fun j => hk 5 j rfl) (fun j => hk 6 j rfl)
theorem bitCount_k {X : Nat × (Nat → Int32)} {d : Nat} {J M : zA} {R : zR} {x : Int} : zW X d 256 0 (gEn 256 [(zi x)]) [] J M R (fun r J2 M2 R2 => ∃ v : Int, r = some (zi v) ∧ (-2147483648 ≤ v ∧ v < 2147483648) ∧ J2 = J ∧ M2 = M ∧ R2 = R) := by
  show zW _ _ _ _ [some (zi x)] _ _ _ _ _
  refine z_iload0 rfl ?_
  refine z_iload0 rfl ?_
  refine z_pushJ gp_256_2 ?_
  refine z_iushr (e := zushr x 1) rfl rfl ?_
  refine z_pushJ gp_256_4 ?_
  refine z_iand (e := zand (zushr x 1) 1431655765) rfl rfl ?_
  refine z_isub (e := x - (zand (zushr x 1) 1431655765)) rfl rfl ?_
  refine z_istore (ls1 := [some (zi (x - (zand (zushr x 1) 1431655765)))]) rfl rfl ?_
  refine z_iload0 rfl ?_
  refine z_pushJ gp_256_11 ?_
  refine z_iand (e := zand (x - (zand (zushr x 1) 1431655765)) 858993459) rfl rfl ?_
  refine z_iload0 rfl ?_
  refine z_pushJ gp_256_16 ?_
  refine z_iushr (e := zushr (x - (zand (zushr x 1) 1431655765)) 2) rfl rfl ?_
  refine z_pushJ gp_256_18 ?_
  refine z_iand (e := zand (zushr (x - (zand (zushr x 1) 1431655765)) 2) 858993459) rfl rfl ?_
  refine z_iadd (e := (zand (x - (zand (zushr x 1) 1431655765)) 858993459) + (zand (zushr (x - (zand (zushr x 1) 1431655765)) 2) 858993459)) rfl rfl ?_
  refine z_istore (ls1 := [some (zi ((zand (x - (zand (zushr x 1) 1431655765)) 858993459) + (zand (zushr (x - (zand (zushr x 1) 1431655765)) 2) 858993459)))]) rfl rfl ?_
  refine z_iload0 rfl ?_
  refine z_iload0 rfl ?_
  refine z_pushJ gp_256_26 ?_
  refine z_iushr (e := zushr ((zand (x - (zand (zushr x 1) 1431655765)) 858993459) + (zand (zushr (x - (zand (zushr x 1) 1431655765)) 2) 858993459)) 4) rfl rfl ?_
  refine z_iadd (e := (zand (x - (zand (zushr x 1) 1431655765)) 858993459) + (zand (zushr (x - (zand (zushr x 1) 1431655765)) 2) 858993459) + (zushr ((zand (x - (zand (zushr x 1) 1431655765)) 858993459) + (zand (zushr (x - (zand (zushr x 1) 1431655765)) 2) 858993459)) 4)) rfl rfl ?_
  refine z_pushJ gp_256_29 ?_
  refine z_iand (e := zand ((zand (x - (zand (zushr x 1) 1431655765)) 858993459) + (zand (zushr (x - (zand (zushr x 1) 1431655765)) 2) 858993459) + (zushr ((zand (x - (zand (zushr x 1) 1431655765)) 858993459) + (zand (zushr (x - (zand (zushr x 1) 1431655765)) 2) 858993459)) 4)) 252645135) rfl rfl ?_
  refine z_istore (ls1 := [some (zi (zand ((zand (x - (zand (zushr x 1) 1431655765)) 858993459) + (zand (zushr (x - (zand (zushr x 1) 1431655765)) 2) 858993459) + (zushr ((zand (x - (zand (zushr x 1) 1431655765)) 858993459) + (zand (zushr (x - (zand (zushr x 1) 1431655765)) 2) 858993459)) 4)) 252645135))]) rfl rfl ?_
  refine z_iload0 rfl ?_
  refine z_iload0 rfl ?_
  refine z_pushJ gp_256_36 ?_
  refine z_iushr (e := zushr (zand ((zand (x - (zand (zushr x 1) 1431655765)) 858993459) + (zand (zushr (x - (zand (zushr x 1) 1431655765)) 2) 858993459) + (zushr ((zand (x - (zand (zushr x 1) 1431655765)) 858993459) + (zand (zushr (x - (zand (zushr x 1) 1431655765)) 2) 858993459)) 4)) 252645135) 8) rfl rfl ?_
  refine z_iadd (e := (zand ((zand (x - (zand (zushr x 1) 1431655765)) 858993459) + (zand (zushr (x - (zand (zushr x 1) 1431655765)) 2) 858993459) + (zushr ((zand (x - (zand (zushr x 1) 1431655765)) 858993459) + (zand (zushr (x - (zand (zushr x 1) 1431655765)) 2) 858993459)) 4)) 252645135) + (zushr (zand ((zand (x - (zand (zushr x 1) 1431655765)) 858993459) + (zand (zushr (x - (zand (zushr x 1) 1431655765)) 2) 858993459) + (zushr ((zand (x - (zand (zushr x 1) 1431655765)) 858993459) + (zand (zushr (x - (zand (zushr x 1) 1431655765)) 2) 858993459)) 4)) 252645135) 8)) rfl rfl ?_
  refine z_istore (ls1 := [some (zi ((zand ((zand (x - (zand (zushr x 1) 1431655765)) 858993459) + (zand (zushr (x - (zand (zushr x 1) 1431655765)) 2) 858993459) + (zushr ((zand (x - (zand (zushr x 1) 1431655765)) 858993459) + (zand (zushr (x - (zand (zushr x 1) 1431655765)) 2) 858993459)) 4)) 252645135) + (zushr (zand ((zand (x - (zand (zushr x 1) 1431655765)) 858993459) + (zand (zushr (x - (zand (zushr x 1) 1431655765)) 2) 858993459) + (zushr ((zand (x - (zand (zushr x 1) 1431655765)) 858993459) + (zand (zushr (x - (zand (zushr x 1) 1431655765)) 2) 858993459)) 4)) 252645135) 8)))]) rfl rfl ?_
  refine z_iload0 rfl ?_
  refine z_iload0 rfl ?_
  refine z_pushJ gp_256_43 ?_
  refine z_iushr (e := zushr ((zand ((zand (x - (zand (zushr x 1) 1431655765)) 858993459) + (zand (zushr (x - (zand (zushr x 1) 1431655765)) 2) 858993459) + (zushr ((zand (x - (zand (zushr x 1) 1431655765)) 858993459) + (zand (zushr (x - (zand (zushr x 1) 1431655765)) 2) 858993459)) 4)) 252645135) + (zushr (zand ((zand (x - (zand (zushr x 1) 1431655765)) 858993459) + (zand (zushr (x - (zand (zushr x 1) 1431655765)) 2) 858993459) + (zushr ((zand (x - (zand (zushr x 1) 1431655765)) 858993459) + (zand (zushr (x - (zand (zushr x 1) 1431655765)) 2) 858993459)) 4)) 252645135) 8)) 16) rfl rfl ?_
  refine z_iadd (e := (zand ((zand (x - (zand (zushr x 1) 1431655765)) 858993459) + (zand (zushr (x - (zand (zushr x 1) 1431655765)) 2) 858993459) + (zushr ((zand (x - (zand (zushr x 1) 1431655765)) 858993459) + (zand (zushr (x - (zand (zushr x 1) 1431655765)) 2) 858993459)) 4)) 252645135) + (zushr (zand ((zand (x - (zand (zushr x 1) 1431655765)) 858993459) + (zand (zushr (x - (zand (zushr x 1) 1431655765)) 2) 858993459) + (zushr ((zand (x - (zand (zushr x 1) 1431655765)) 858993459) + (zand (zushr (x - (zand (zushr x 1) 1431655765)) 2) 858993459)) 4)) 252645135) 8) + (zushr ((zand ((zand (x - (zand (zushr x 1) 1431655765)) 858993459) + (zand (zushr (x - (zand (zushr x 1) 1431655765)) 2) 858993459) + (zushr ((zand (x - (zand (zushr x 1) 1431655765)) 858993459) + (zand (zushr (x - (zand (zushr x 1) 1431655765)) 2) 858993459)) 4)) 252645135) + (zushr (zand ((zand (x - (zand (zushr x 1) 1431655765)) 858993459) + (zand (zushr (x - (zand (zushr x 1) 1431655765)) 2) 858993459) + (zushr ((zand (x - (zand (zushr x 1) 1431655765)) 858993459) + (zand (zushr (x - (zand (zushr x 1) 1431655765)) 2) 858993459)) 4)) 252645135) 8)) 16)) rfl rfl ?_
  refine z_istore (ls1 := [some (zi ((zand ((zand (x - (zand (zushr x 1) 1431655765)) 858993459) + (zand (zushr (x - (zand (zushr x 1) 1431655765)) 2) 858993459) + (zushr ((zand (x - (zand (zushr x 1) 1431655765)) 858993459) + (zand (zushr (x - (zand (zushr x 1) 1431655765)) 2) 858993459)) 4)) 252645135) + (zushr (zand ((zand (x - (zand (zushr x 1) 1431655765)) 858993459) + (zand (zushr (x - (zand (zushr x 1) 1431655765)) 2) 858993459) + (zushr ((zand (x - (zand (zushr x 1) 1431655765)) 858993459) + (zand (zushr (x - (zand (zushr x 1) 1431655765)) 2) 858993459)) 4)) 252645135) 8) + (zushr ((zand ((zand (x - (zand (zushr x 1) 1431655765)) 858993459) + (zand (zushr (x - (zand (zushr x 1) 1431655765)) 2) 858993459) + (zushr ((zand (x - (zand (zushr x 1) 1431655765)) 858993459) + (zand (zushr (x - (zand (zushr x 1) 1431655765)) 2) 858993459)) 4)) 252645135) + (zushr (zand ((zand (x - (zand (zushr x 1) 1431655765)) 858993459) + (zand (zushr (x - (zand (zushr x 1) 1431655765)) 2) 858993459) + (zushr ((zand (x - (zand (zushr x 1) 1431655765)) 858993459) + (zand (zushr (x - (zand (zushr x 1) 1431655765)) 2) 858993459)) 4)) 252645135) 8)) 16)))]) rfl rfl ?_
  refine z_iload0 rfl ?_
  refine z_pushJ gp_256_49 ?_
  refine z_iand (e := zand ((zand ((zand (x - (zand (zushr x 1) 1431655765)) 858993459) + (zand (zushr (x - (zand (zushr x 1) 1431655765)) 2) 858993459) + (zushr ((zand (x - (zand (zushr x 1) 1431655765)) 858993459) + (zand (zushr (x - (zand (zushr x 1) 1431655765)) 2) 858993459)) 4)) 252645135) + (zushr (zand ((zand (x - (zand (zushr x 1) 1431655765)) 858993459) + (zand (zushr (x - (zand (zushr x 1) 1431655765)) 2) 858993459) + (zushr ((zand (x - (zand (zushr x 1) 1431655765)) 858993459) + (zand (zushr (x - (zand (zushr x 1) 1431655765)) 2) 858993459)) 4)) 252645135) 8) + (zushr ((zand ((zand (x - (zand (zushr x 1) 1431655765)) 858993459) + (zand (zushr (x - (zand (zushr x 1) 1431655765)) 2) 858993459) + (zushr ((zand (x - (zand (zushr x 1) 1431655765)) 858993459) + (zand (zushr (x - (zand (zushr x 1) 1431655765)) 2) 858993459)) 4)) 252645135) + (zushr (zand ((zand (x - (zand (zushr x 1) 1431655765)) 858993459) + (zand (zushr (x - (zand (zushr x 1) 1431655765)) 2) 858993459) + (zushr ((zand (x - (zand (zushr x 1) 1431655765)) 858993459) + (zand (zushr (x - (zand (zushr x 1) 1431655765)) 2) 858993459)) 4)) 252645135) 8)) 16)) 63) rfl rfl ?_
  refine z_iret rfl gr_256 ?_
  exact ⟨_, rfl, zand_r _ _, rfl, rfl, rfl⟩
abbrev oB (A J : zA) (q : Int) : Prop := zK kS A J ∧ J 18 3 = q ∧ (-1 ≤ J 18 4 ∧ J 18 4 ≤ 100000000)
theorem oB_u {A J : zA} {q x v : Int} (h : oB A J q) : oB A (zU J 19 x v) q := ⟨zK_x (a := 19) (x := x) (v := v) h.1 rfl, (zU_n (by decide)).trans h.2.1, by rw [zU_n (by decide)]; exact h.2.2⟩
theorem tryC_l {X : Nat × (Nat → Int32)} {e : Nat} {M : zA} {R : zR} (hR : zRok R) {A : zA} {N : Int → Int → Int} {n : Int} (hA : cN A = N) (hz : A 8 2 = n) (hN : zNr n N) {T : zX} (hT : LawC X A R T) (hTr : Tok T) (hsh : ∀ p, 0 ≤ p → p < 8 → 0 ≤ sShare N n p ∧ sShare N n p ≤ 1000000) {q : Int} (hq : 1 ≤ q ∧ q ≤ 99) {dp : Int} (hd : 0 ≤ dp ∧ dp < 6) (IH : ∀ (st fr mi fo : Int) (J : zA), oB A J q → (-2147483648 ≤ st ∧ st < 2147483648) → (-2147483648 ≤ fr ∧ fr < 2147483648) → (0 ≤ mi ∧ mi ≤ 400 * (dp + 1)) → (0 ≤ fo ∧ fo ≤ 1000000 * (dp + 1)) → zW X (e + 7) 53 0 (gEn 53 [(.ref 18), (zi (dp + 1)), (zi st), (zi fr), (zi mi), (zi fo)]) [] J M R (fun r J2 M2 R2 => r = none ∧ oB A J2 q ∧ M2 = M ∧ R2 = R)) {st fr mi fo : Int} (hst : -2147483648 ≤ st ∧ st < 2147483648) (hfr : -2147483648 ≤ fr ∧ fr < 2147483648) (hmi : 0 ≤ mi ∧ mi ≤ 400 * dp) (hfo : 0 ≤ fo ∧ fo ≤ 1000000 * dp) : ∀ (j : Nat) (p : Int) (e7 e8 e9 : Option Value) (J : zA), oB A J q → p + j = 8 → 0 ≤ p → zW X (e + 8) 53 21 [some (.ref 18), some (zi dp), some (zi st), some (zi fr), some (zi mi), some (zi fo), some (zi p), e7, e8, e9] [] J M R (fun r J2 M2 R2 => r = none ∧ oB A J2 q ∧ M2 = M ∧ R2 = R) := by
  intro j
  induction j with
  | zero =>
    intro p e7 e8 e9 J hJ hp h0
    obtain rfl : p = 8 := by omega
    refine z_iload rfl rfl ?_
    refine z_pushI (z := 8) rfl rfl ?_
    refine z_icmp_geT rfl (by decide) (by decide) (by decide) ?_
    exact z_vret rfl rfl ⟨rfl, hJ, rfl, rfl⟩
  | succ j ih =>
    intro p e7 e8 e9 J hJ hp h0
    have qz1 := zand_r (zshr st p) 1
    refine z_iload6 rfl ?_
    refine z_pushJ gp_53_23 ?_
    refine z_icmp_geF rfl (by omega) zr_8 (by omega) ?_
    refine z_iload2 rfl ?_
    refine z_iload6 rfl ?_
    refine z_ishr (e := zshr st p) rfl rfl ?_
    refine z_pushJ gp_53_32 ?_
    refine z_iand (e := zand (zshr st p) 1) rfl rfl ?_
    refine z_if_ne rfl (by omega) (fun h1 => ?_) (fun h1 => ?_)
    · refine z_iload4 rfl ?_
      refine z_aload0 rfl ?_
      refine z_getR (r := 8) rfl gk_18 (hR _ rm_18_0) ?_
      refine z_iload3 rfl ?_
      refine z_iload6 rfl ?_
      refine z_callVP (As := [_, _]) (v := sWay N fr p) rfl rfl gk_8 (Nat.le_of_ble_eq_true rfl) (Nat.le_of_ble_eq_true rfl) (way_k (A := J) hR zK_r ((cN_S hJ.1).trans hA) ((hJ.1 8 2 rfl).trans hz) hN (by omega) (by omega)) ?_
      have q2 := sWay_r hN (f := fr) (p := p)
      refine z_iadd (e := mi + (sWay N fr p)) rfl rfl ?_
      refine z_aload0 rfl ?_
      refine z_getI (v := q) rfl gk_18 (hJ.2.1) ?_
      refine z_iadd (e := mi + (sWay N fr p) + q) rfl rfl ?_
      refine z_istore (ls1 := [some (.ref 18), some (zi dp), some (zi st), some (zi fr), some (zi mi), some (zi fo), some (zi p), some (zi (mi + (sWay N fr p) + q)), e8, e9]) rfl rfl ?_
      refine z_aload0 rfl ?_
      refine z_getR (r := 8) rfl gk_18 (hR _ rm_18_0) ?_
      refine z_iload6 rfl ?_
      refine z_callVP (As := [_]) (v := sShare N n p) rfl rfl gk_8 (Nat.le_of_ble_eq_true rfl) (Nat.le_of_ble_eq_true rfl) (shareBy_k (A := J) hR zK_r ((cN_S hJ.1).trans hA) ((hJ.1 8 2 rfl).trans hz) hN (by omega)) ?_
      have q3 := hsh p (by omega) (by omega)
      refine z_istore (ls1 := [some (.ref 18), some (zi dp), some (zi st), some (zi fr), some (zi mi), some (zi fo), some (zi p), some (zi (mi + (sWay N fr p) + q)), some (zi (sShare N n p)), e9]) rfl rfl ?_
      refine z_iload8 rfl ?_
      refine z_istore (ls1 := [some (.ref 18), some (zi dp), some (zi st), some (zi fr), some (zi mi), some (zi fo), some (zi p), some (zi (mi + (sWay N fr p) + q)), some (zi (sShare N n p)), some (zi (sShare N n p))]) rfl rfl ?_
      refine z_iload7 rfl ?_
      refine z_pushJ gp_53_77 ?_
      refine z_icmp_gt rfl (by omega) (by decide) (fun h4 => ?_) (fun h4 => ?_)
      · refine z_aload0 gi_53_108 ?_
        refine z_getR (r := 19) gi_53_109 gk_18 (hR _ rm_18_1) ?_
        refine z_iload1 gi_53_112 ?_
        refine z_iload6 gi_53_113 ?_
        refine z_iast (e := p) gi_53_115 gk_19 (by decide) (by omega) rfl ?_
        refine z_aload0 gi_53_116 ?_
        refine z_iload1 gi_53_117 ?_
        refine z_pushJ gp_53_118 ?_
        refine z_iadd (e := dp + 1) gi_53_119 rfl ?_
        refine z_iload2 gi_53_120 ?_
        refine z_pushJ gp_53_121 ?_
        refine z_iload6 gi_53_122 ?_
        refine z_ishl (e := zshl 1 p) gi_53_124 rfl ?_
        refine z_pushJ gp_53_125 ?_
        refine z_ixor (e := zxor (zshl 1 p) (-1)) gi_53_126 rfl ?_
        refine z_iand (e := zand st (zxor (zshl 1 p) (-1))) gi_53_127 rfl ?_
        refine z_iload6 gi_53_128 ?_
        refine z_iload7 gi_53_130 ?_
        refine z_iload5 gi_53_132 ?_
        refine z_iload8 gi_53_134 ?_
        refine z_iadd (e := fo + (sShare N n p)) gi_53_136 rfl ?_
        refine z_iload9 gi_53_137 ?_
        refine z_isub (e := fo + (sShare N n p) - (sShare N n p)) gi_53_139 rfl ?_
        have qz := zand_r st (zxor (zshl 1 p) (-1))
        refine z_callV (As := [_, _, _, _, _]) _ gi_53_140 rfl rfl (Nat.le_of_ble_eq_true rfl) (Nat.le_of_ble_eq_true rfl) (IH _ _ _ _ _ (oB_u hJ) (by omega) (by omega) (by omega) (by omega)) (fun r J3 M3 R3 h3 => ?_)
        obtain ⟨rfl, hJ3, rfl, rfl⟩ := h3
        show zW _ _ _ _ _ _ _ _ _ _
        refine z_iinc (c := 1) (e := p + 1) (ls1 := [some (.ref 18), some (zi dp), some (zi st), some (zi fr), some (zi mi), some (zi fo), some (zi (p + 1)), some (zi (mi + (sWay N fr p) + q)), some (zi (sShare N n p)), some (zi (sShare N n p))]) gi_53_143 rfl rfl rfl rfl ?_
        refine z_goto gi_53_146 ?_
        show zW _ _ _ _ [some (.ref 18), some (zi dp), some (zi st), some (zi fr), some (zi mi), some (zi fo), some (zi (p + 1)), some (zi (mi + (sWay N fr p) + q)), some (zi (sShare N n p)), some (zi (sShare N n p))] [] _ _ _ _
        exact ih (p + 1) (some (zi (mi + (sWay N fr p) + q))) (some (zi (sShare N n p))) (some (zi (sShare N n p))) J3 hJ3 (by omega) (by omega)
      · refine z_aload0 rfl ?_
        refine z_getR (r := 8) rfl gk_18 (hR _ rm_18_0) ?_
        refine z_aload0 rfl ?_
        refine z_getI (v := q) rfl gk_18 (hJ.2.1) ?_
        refine z_iload8 rfl ?_
        refine z_iload6 rfl ?_
        refine z_pushJ gp_53_95 ?_
        refine z_iload7 rfl ?_
        refine z_aload0 rfl ?_
        refine z_getI (v := q) rfl gk_18 (hJ.2.1) ?_
        refine z_isub (e := mi + (sWay N fr p) + q - q) rfl rfl ?_
        refine z_callVk (As := [_, _, _, _, _]) (v := lB T N p q.toNat (sShare N n p) 0 (mi + (sWay N fr p) + q - q)) rfl rfl gk_8 (Nat.le_of_ble_eq_true rfl) (Nat.le_of_ble_eq_true rfl) (leftBehind_k (A := J) hR zK_r ((cN_S hJ.1).trans hA) ((hJ.1 8 2 rfl).trans hz) hN (LawC_S hT hJ.1) hTr (by omega) (by omega) (by omega) (by omega) (by omega)) (fun J2 hJk => ?_)
        have ql := @lB_r T N p q.toNat (sShare N n p) 0 (mi + (sWay N fr p) + q - q) (by omega)
        have hJ2 : oB A J2 q := ⟨zK_t hJ.1 (zK_m hJk kS_T), (hJk 18 3 rfl).trans hJ.2.1, by rw [hJk 18 4 rfl]; exact hJ.2.2⟩
        refine z_istore (ls1 := [some (.ref 18), some (zi dp), some (zi st), some (zi fr), some (zi mi), some (zi fo), some (zi p), some (zi (mi + (sWay N fr p) + q)), some (zi (sShare N n p)), some (zi (lB T N p q.toNat (sShare N n p) 0 (mi + (sWay N fr p) + q - q)))]) rfl rfl ?_
        refine z_aload0 gi_53_108 ?_
        refine z_getR (r := 19) gi_53_109 gk_18 (hR _ rm_18_1) ?_
        refine z_iload1 gi_53_112 ?_
        refine z_iload6 gi_53_113 ?_
        refine z_iast (e := p) gi_53_115 gk_19 (by decide) (by omega) rfl ?_
        refine z_aload0 gi_53_116 ?_
        refine z_iload1 gi_53_117 ?_
        refine z_pushJ gp_53_118 ?_
        refine z_iadd (e := dp + 1) gi_53_119 rfl ?_
        refine z_iload2 gi_53_120 ?_
        refine z_pushJ gp_53_121 ?_
        refine z_iload6 gi_53_122 ?_
        refine z_ishl (e := zshl 1 p) gi_53_124 rfl ?_
        refine z_pushJ gp_53_125 ?_
        refine z_ixor (e := zxor (zshl 1 p) (-1)) gi_53_126 rfl ?_
        refine z_iand (e := zand st (zxor (zshl 1 p) (-1))) gi_53_127 rfl ?_
        refine z_iload6 gi_53_128 ?_
        refine z_iload7 gi_53_130 ?_
        refine z_iload5 gi_53_132 ?_
        refine z_iload8 gi_53_134 ?_
        refine z_iadd (e := fo + (sShare N n p)) gi_53_136 rfl ?_
        refine z_iload9 gi_53_137 ?_
        refine z_isub (e := fo + (sShare N n p) - (lB T N p q.toNat (sShare N n p) 0 (mi + (sWay N fr p) + q - q))) gi_53_139 rfl ?_
        have qz := zand_r st (zxor (zshl 1 p) (-1))
        refine z_callV (As := [_, _, _, _, _]) _ gi_53_140 rfl rfl (Nat.le_of_ble_eq_true rfl) (Nat.le_of_ble_eq_true rfl) (IH _ _ _ _ _ (oB_u hJ2) (by omega) (by omega) (by omega) (by omega)) (fun r J3 M3 R3 h3 => ?_)
        obtain ⟨rfl, hJ3, rfl, rfl⟩ := h3
        show zW _ _ _ _ _ _ _ _ _ _
        refine z_iinc (c := 1) (e := p + 1) (ls1 := [some (.ref 18), some (zi dp), some (zi st), some (zi fr), some (zi mi), some (zi fo), some (zi (p + 1)), some (zi (mi + (sWay N fr p) + q)), some (zi (sShare N n p)), some (zi (lB T N p q.toNat (sShare N n p) 0 (mi + (sWay N fr p) + q - q)))]) gi_53_143 rfl rfl rfl rfl ?_
        refine z_goto gi_53_146 ?_
        show zW _ _ _ _ [some (.ref 18), some (zi dp), some (zi st), some (zi fr), some (zi mi), some (zi fo), some (zi (p + 1)), some (zi (mi + (sWay N fr p) + q)), some (zi (sShare N n p)), some (zi (lB T N p q.toNat (sShare N n p) 0 (mi + (sWay N fr p) + q - q)))] [] _ _ _ _
        exact ih (p + 1) (some (zi (mi + (sWay N fr p) + q))) (some (zi (sShare N n p))) (some (zi (lB T N p q.toNat (sShare N n p) 0 (mi + (sWay N fr p) + q - q)))) J3 hJ3 (by omega) (by omega)
    · refine z_goto rfl ?_
      refine z_iinc (c := 1) (e := p + 1) (ls1 := [some (.ref 18), some (zi dp), some (zi st), some (zi fr), some (zi mi), some (zi fo), some (zi (p + 1)), e7, e8, e9]) gi_53_143 rfl rfl rfl rfl ?_
      refine z_goto gi_53_146 ?_
      show zW _ _ _ _ [some (.ref 18), some (zi dp), some (zi st), some (zi fr), some (zi mi), some (zi fo), some (zi (p + 1)), e7, e8, e9] [] _ _ _ _
      exact ih (p + 1) e7 e8 e9 J hJ (by omega) (by omega)
theorem tryC_z {X : Nat × (Nat → Int32)} {M : zA} {R : zR} (hR : zRok R) {A : zA} {N : Int → Int → Int} {n : Int} (hA : cN A = N) (hz : A 8 2 = n) (hN : zNr n N) {T : zX} (hT : LawC X A R T) (hTr : Tok T) (hsh : ∀ p, 0 ≤ p → p < 8 → 0 ≤ sShare N n p ∧ sShare N n p ≤ 1000000) {q : Int} (hq : 1 ≤ q ∧ q ≤ 99) : ∀ (c D : Nat) (dp st fr mi fo : Int) (J : zA), oB A J q → (dp + c = 7 ∧ 0 ≤ dp ∧ dp ≤ 6 ∧ 7 + c ≤ D) → (-2147483648 ≤ st ∧ st < 2147483648) → (-2147483648 ≤ fr ∧ fr < 2147483648) → (0 ≤ mi ∧ mi ≤ 400 * dp) → (0 ≤ fo ∧ fo ≤ 1000000 * dp) → zW X D 53 0 (gEn 53 [(.ref 18), (zi dp), (zi st), (zi fr), (zi mi), (zi fo)]) [] J M R (fun r J2 M2 R2 => r = none ∧ oB A J2 q ∧ M2 = M ∧ R2 = R) := by
  intro c
  induction c with
  | zero =>
    intro D dp st fr mi fo J hJ hd
    exfalso
    omega
  | succ c ih =>
    intro D dp st fr mi fo J hJ hd hst hfr hmi hfo
    obtain ⟨e, rfl⟩ : ∃ e, D = e + 8 := ⟨D - 8, by omega⟩
    have qm := hJ.2.2
    show zW _ _ _ _ [some (.ref 18), some (zi dp), some (zi st), some (zi fr), some (zi mi), some (zi fo), none, none, none, none] _ _ _ _ _
    refine z_iload2 rfl ?_
    refine z_if_ne rfl (by omega) (fun h1 => ?_) (fun h1 => ?_)
    · refine z_iload1 rfl ?_
      refine z_pushJ gp_53_12 ?_
      refine z_icmp_lt rfl (by omega) zr_6 (fun h2 => ?_) (fun h2 => ?_)
      · refine z_pushJ gp_53_18 ?_
        refine z_istore (ls1 := [some (.ref 18), some (zi dp), some (zi st), some (zi fr), some (zi mi), some (zi fo), some (zi 0), none, none, none]) rfl rfl ?_
        show zW _ _ _ _ [some (.ref 18), some (zi dp), some (zi st), some (zi fr), some (zi mi), some (zi fo), some (zi 0), none, none, none] [] _ _ _ _
        exact tryC_l hR hA hz hN hT hTr hsh hq (by omega) (fun st fr mi fo J a b c f g => ih (e + 7) (dp + 1) st fr mi fo J a (by omega) b c f g) hst hfr hmi hfo 8 0 none none none J hJ (by decide) (by decide)
      · refine z_vret rfl gr_53 ?_
        exact ⟨rfl, hJ, rfl, rfl⟩
    · refine z_aload0 rfl ?_
      refine z_iload5 rfl ?_
      refine z_cV1 rfl gk_18 go_54 (Nat.le_of_ble_eq_true rfl) gc_54_RI ?_
      refine z_iload1 rfl ?_
      refine z_aload0 rfl ?_
      refine z_getI (v := (J 18 4)) rfl gk_18 (rfl) ?_
      refine z_icmp_gt rfl (by omega) (by omega) (fun h3 => ?_) (fun h3 => ?_)
      · refine z_aload0 rfl ?_
        refine z_iload1 rfl ?_
        refine z_putI (y := 4) rfl rfl gk_18 ?_
        refine z_aload0 rfl ?_
        refine z_getR (r := 19) rfl gk_18 (hR _ rm_18_1) ?_
        refine z_pushJ gp_54_18 ?_
        refine z_aload0 rfl ?_
        refine z_getR (r := 20) rfl gk_18 (hR _ rm_18_2) ?_
        refine z_pushJ gp_54_23 ?_
        refine z_pushJ gp_54_24 ?_
        refine z_copyI rfl gk_19 gk_20 (by decide) (by decide) (by decide) (by decide) (by decide) (by decide) (by decide) (by decide) ?_
        refine z_vret rfl gr_54 ?_
        show zW _ _ _ _ _ _ _ _ _ _
        refine z_vret gi_53_10 gr_53 ?_
        refine ⟨rfl, ⟨zK_c (a := 19) (b := 20) (sp := 0) (dp := 0) (n := 6) (zK_x (a := 18) (x := 4) (v := fo) hJ.1 rfl) (fun _ => rfl), (zC_n (by decide)).trans ((zU_x (by decide)).trans hJ.2.1), ?_⟩, rfl, rfl⟩
        rw [zC_n (by decide), zU_e]
        omega
      · refine z_vret rfl gr_54 ?_
        show zW _ _ _ _ _ _ _ _ _ _
        refine z_vret gi_53_10 gr_53 ?_
        exact ⟨rfl, hJ, rfl, rfl⟩
