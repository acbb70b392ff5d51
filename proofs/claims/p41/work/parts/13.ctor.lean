noncomputable def gKs : List (Nat × Nat) := [(10, 0), (3, 0), (12, 120), (12, 121), (12, 121), (12, 121), (12, 121), (12, 121), (9, 0), (12, 54), (8, 0), (12, 8), (12, 8), (12, 30), (12, 30), (12, 30), (12, 30), (12, 30), (5, 0), (12, 6), (12, 6), (4, 0), (6, 0), (2, 0), (12, 8), (12, 8), (2, 0), (12, 8), (12, 8), (1, 0), (12, 40), (12, 40), (12, 40), (12, 40), (0, 0), (12, 50), (12, 24), (16, 6), (7, 0), (13, 60), (7, 0), (13, 60), (7, 0), (13, 60), (7, 0), (13, 60), (7, 0), (13, 60), (7, 0), (13, 60), (11, 0), (12, 8), (12, 8), (12, 8), (12, 8), (12, 8), (12, 9), (12, 40), (12, 40), (12, 40), (12, 40), (14, 120), (14, 260), (12, 260), (12, 2), (15, 122), (15, 122), (12, 6), (12, 130), (12, 8), (12, 8), (12, 8), (12, 8), (13, 21), (13, 21), (12, 8), (12, 8), (12, 4), (12, 8), (12, 8), (12, 4), (12, 50), (12, 24), (12, 6), (12, 6), (13, 360), (13, 60)]
noncomputable def gK (n : Nat) : List (Nat × Nat) := gKs.take n
theorem w_newN {X : Nat × (Nat → Int32)} {d k pc nx mc ms m2 n2 a : Nat} {ls : List (Option Value)} {st : List Value} {Kd K2 : List (Nat × Nat)} {I : Nat → Nat → Int32} {L : Nat → Nat → Int64} {R : Nat → Nat → Option Nat} {Q : gQ} {ci f : Nat} (h0 : gF k pc = some (70, nx, ci, f, 0, 0)) (hl : Kd.length = a) (hK : Kd ++ [(ci, 0)] = K2) (ha : a < 900) (hm : mc = m2 + 1) (hn : ms = n2 + f)
    (kk : gW X d k nx m2 n2 ls (.ref a :: st) (K2, gClr I a 0, gClr L a 0, gClr R a none) Q) : gW X d k pc mc ms ls st (Kd, I, L, R) Q := by
  subst hl; subst hK; subst hm; subst hn
  exact w_new h0 ha kk
theorem w_newAN {X : Nat × (Nat → Int32)} {d k pc nx mc ms m2 n2 a : Nat} {ls : List (Option Value)} {st : List Value} {Kd K2 : List (Nat × Nat)} {I : Nat → Nat → Int32} {L : Nat → Nat → Int64} {R : Nat → Nat → Option Nat} {Q : gQ} {t N : Nat} {n : Int32} (h0 : gF k pc = some (71, nx, t, 0, 0, 0)) (hl : Kd.length = a) (hK : Kd ++ [(t, N)] = K2) (ha : a < 900) (hm : mc = m2 + 1) (hn : ms = n2 + N) (h1 : ¬ n < 0) (h2 : n.toNatClampNeg = N) (h3 : N ≤ 100000)
    (kk : gW X d k nx m2 n2 ls (.ref a :: st) (K2, gClr I a 0, gClr L a 0, gClr R a none) Q) : gW X d k pc mc ms ls (.int n :: st) (Kd, I, L, R) Q := by
  subst hl; subst hK; subst hm; subst hn
  exact w_newA h0 ha h1 h2 h3 kk
theorem w_newRN {X : Nat × (Nat → Int32)} {d k pc nx mc ms m2 n2 a : Nat} {ls : List (Option Value)} {st : List Value} {Kd K2 : List (Nat × Nat)} {I : Nat → Nat → Int32} {L : Nat → Nat → Int64} {R : Nat → Nat → Option Nat} {Q : gQ} {N : Nat} {n : Int32} (h0 : gF k pc = some (72, nx, 0, 0, 0, 0)) (hl : Kd.length = a) (hK : Kd ++ [(16, N)] = K2) (ha : a < 900) (hm : mc = m2 + 1) (hn : ms = n2 + N) (h1 : ¬ n < 0) (h2 : n.toNatClampNeg = N) (h3 : N ≤ 100000)
    (kk : gW X d k nx m2 n2 ls (.ref a :: st) (K2, gClr I a 0, gClr L a 0, gClr R a none) Q) : gW X d k pc mc ms ls (.int n :: st) (Kd, I, L, R) Q := by
  subst hl; subst hK; subst hm; subst hn
  exact w_newR h0 ha h1 h2 h3 kk
theorem w_callN {X : Nat × (Nat → Int32)} {d k pc nx mc ms m1 m2 c2 s2 y n b : Nat} {As : List Value} {ls : List (Option Value)} {st : List Value} {Kd K2 : List (Nat × Nat)} {I I2 : Nat → Nat → Int32} {L L2 : Nat → Nat → Int64} {R R2 : Nat → Nat → Option Nat} {Q : gQ} (h0 : gF k pc = some (75, nx, y, n, 0, 0)) (hn : As.length = n) (hcat : (st.map fun v => v.category).sum ≤ 8) (hlay : (gLay (.ref b :: As)).length ≤ gMx y) (hm : mc = c2 + m1) (hs : ms = s2 + m2)
    (hc : gW X d y 0 m1 m2 (gEn y (.ref b :: As)) [] (Kd, I, L, R) (fun r σ => r = none ∧ σ = (K2, I2, L2, R2))) (kk : gW X (d + 1) k nx c2 s2 ls st (K2, I2, L2, R2) Q) : gW X (d + 1) k pc mc ms ls (As.reverse ++ (.ref b :: st)) (Kd, I, L, R) Q := by
  subst hm; subst hs
  exact w_callI _ h0 hn hcat hlay hc (fun r K3 I3 L3 R3 hr => by
    obtain ⟨-, hσ⟩ := hr
    cases hσ
    exact kk)
noncomputable def gCI_0 : Nat → Nat → Int32 := fun _ _ => 0
noncomputable def gCL_0 : Nat → Nat → Int64 := fun _ _ => 0
noncomputable def gCR_0 : Nat → Nat → Option Nat := fun _ _ => none
noncomputable def gCI_1 : Nat → Nat → Int32 := gClr gCI_0 0 0
noncomputable def gCL_1 : Nat → Nat → Int64 := gClr gCL_0 0 0
noncomputable def gCR_1 : Nat → Nat → Option Nat := gClr gCR_0 0 none
noncomputable def gCI_2 : Nat → Nat → Int32 := gClr gCI_1 1 0
noncomputable def gCL_2 : Nat → Nat → Int64 := gClr gCL_1 1 0
noncomputable def gCR_2 : Nat → Nat → Option Nat := gClr gCR_1 1 none
noncomputable def gCI_3 : Nat → Nat → Int32 := gClr gCI_2 2 0
noncomputable def gCL_3 : Nat → Nat → Int64 := gClr gCL_2 2 0
noncomputable def gCR_3 : Nat → Nat → Option Nat := gClr gCR_2 2 none
noncomputable def gCR_4 : Nat → Nat → Option Nat := gU gCR_3 1 0 (some 2)
noncomputable def gCI_4 : Nat → Nat → Int32 := gClr gCI_3 3 0
noncomputable def gCL_4 : Nat → Nat → Int64 := gClr gCL_3 3 0
noncomputable def gCR_5 : Nat → Nat → Option Nat := gClr gCR_4 3 none
noncomputable def gCR_6 : Nat → Nat → Option Nat := gU gCR_5 1 3 (some 3)
noncomputable def gCI_5 : Nat → Nat → Int32 := gClr gCI_4 4 0
noncomputable def gCL_5 : Nat → Nat → Int64 := gClr gCL_4 4 0
noncomputable def gCR_7 : Nat → Nat → Option Nat := gClr gCR_6 4 none
noncomputable def gCR_8 : Nat → Nat → Option Nat := gU gCR_7 1 4 (some 4)
noncomputable def gCI_6 : Nat → Nat → Int32 := gClr gCI_5 5 0
noncomputable def gCL_6 : Nat → Nat → Int64 := gClr gCL_5 5 0
noncomputable def gCR_9 : Nat → Nat → Option Nat := gClr gCR_8 5 none
noncomputable def gCR_10 : Nat → Nat → Option Nat := gU gCR_9 1 6 (some 5)
noncomputable def gCI_7 : Nat → Nat → Int32 := gClr gCI_6 6 0
noncomputable def gCL_7 : Nat → Nat → Int64 := gClr gCL_6 6 0
noncomputable def gCR_11 : Nat → Nat → Option Nat := gClr gCR_10 6 none
noncomputable def gCR_12 : Nat → Nat → Option Nat := gU gCR_11 1 7 (some 6)
noncomputable def gCI_8 : Nat → Nat → Int32 := gClr gCI_7 7 0
noncomputable def gCL_8 : Nat → Nat → Int64 := gClr gCL_7 7 0
noncomputable def gCR_13 : Nat → Nat → Option Nat := gClr gCR_12 7 none
noncomputable def gCR_14 : Nat → Nat → Option Nat := gU gCR_13 1 9 (some 7)
noncomputable def gCR_15 : Nat → Nat → Option Nat := gU gCR_14 0 0 (some 1)
noncomputable def gCI_9 : Nat → Nat → Int32 := gClr gCI_8 8 0
noncomputable def gCL_9 : Nat → Nat → Int64 := gClr gCL_8 8 0
noncomputable def gCR_16 : Nat → Nat → Option Nat := gClr gCR_15 8 none
noncomputable def gCI_10 : Nat → Nat → Int32 := gClr gCI_9 9 0
noncomputable def gCL_10 : Nat → Nat → Int64 := gClr gCL_9 9 0
noncomputable def gCR_17 : Nat → Nat → Option Nat := gClr gCR_16 9 none
noncomputable def gCR_18 : Nat → Nat → Option Nat := gU gCR_17 8 1 (some 9)
noncomputable def gCR_19 : Nat → Nat → Option Nat := gU gCR_18 8 0 (some 1)
noncomputable def gCI_11 : Nat → Nat → Int32 := gU gCI_10 9 45 0
noncomputable def gCI_12 : Nat → Nat → Int32 := gU gCI_11 9 46 180
noncomputable def gCI_13 : Nat → Nat → Int32 := gU gCI_12 9 47 20
noncomputable def gCI_14 : Nat → Nat → Int32 := gU gCI_13 9 48 60
noncomputable def gCI_15 : Nat → Nat → Int32 := gU gCI_14 9 49 90
noncomputable def gCI_16 : Nat → Nat → Int32 := gU gCI_15 9 50 3
noncomputable def gCI_17 : Nat → Nat → Int32 := gU gCI_16 9 51 20
noncomputable def gCI_18 : Nat → Nat → Int32 := gU gCI_17 9 52 60
noncomputable def gCI_19 : Nat → Nat → Int32 := gU gCI_18 9 53 20
noncomputable def gCR_20 : Nat → Nat → Option Nat := gU gCR_19 0 1 (some 8)
noncomputable def gCI_20 : Nat → Nat → Int32 := gClr gCI_19 10 0
noncomputable def gCL_11 : Nat → Nat → Int64 := gClr gCL_10 10 0
noncomputable def gCR_21 : Nat → Nat → Option Nat := gClr gCR_20 10 none
noncomputable def gCI_21 : Nat → Nat → Int32 := gClr gCI_20 11 0
noncomputable def gCL_12 : Nat → Nat → Int64 := gClr gCL_11 11 0
noncomputable def gCR_22 : Nat → Nat → Option Nat := gClr gCR_21 11 none
noncomputable def gCR_23 : Nat → Nat → Option Nat := gU gCR_22 10 1 (some 11)
noncomputable def gCI_22 : Nat → Nat → Int32 := gClr gCI_21 12 0
noncomputable def gCL_13 : Nat → Nat → Int64 := gClr gCL_12 12 0
noncomputable def gCR_24 : Nat → Nat → Option Nat := gClr gCR_23 12 none
noncomputable def gCR_25 : Nat → Nat → Option Nat := gU gCR_24 10 2 (some 12)
noncomputable def gCI_23 : Nat → Nat → Int32 := gClr gCI_22 13 0
noncomputable def gCL_14 : Nat → Nat → Int64 := gClr gCL_13 13 0
noncomputable def gCR_26 : Nat → Nat → Option Nat := gClr gCR_25 13 none
noncomputable def gCR_27 : Nat → Nat → Option Nat := gU gCR_26 10 3 (some 13)
noncomputable def gCI_24 : Nat → Nat → Int32 := gClr gCI_23 14 0
noncomputable def gCL_15 : Nat → Nat → Int64 := gClr gCL_14 14 0
noncomputable def gCR_28 : Nat → Nat → Option Nat := gClr gCR_27 14 none
noncomputable def gCR_29 : Nat → Nat → Option Nat := gU gCR_28 10 4 (some 14)
noncomputable def gCI_25 : Nat → Nat → Int32 := gClr gCI_24 15 0
noncomputable def gCL_16 : Nat → Nat → Int64 := gClr gCL_15 15 0
noncomputable def gCR_30 : Nat → Nat → Option Nat := gClr gCR_29 15 none
noncomputable def gCR_31 : Nat → Nat → Option Nat := gU gCR_30 10 5 (some 15)
noncomputable def gCI_26 : Nat → Nat → Int32 := gClr gCI_25 16 0
noncomputable def gCL_17 : Nat → Nat → Int64 := gClr gCL_16 16 0
noncomputable def gCR_32 : Nat → Nat → Option Nat := gClr gCR_31 16 none
noncomputable def gCR_33 : Nat → Nat → Option Nat := gU gCR_32 10 6 (some 16)
noncomputable def gCI_27 : Nat → Nat → Int32 := gClr gCI_26 17 0
noncomputable def gCL_18 : Nat → Nat → Int64 := gClr gCL_17 17 0
noncomputable def gCR_34 : Nat → Nat → Option Nat := gClr gCR_33 17 none
noncomputable def gCR_35 : Nat → Nat → Option Nat := gU gCR_34 10 7 (some 17)
noncomputable def gCR_36 : Nat → Nat → Option Nat := gU gCR_35 10 0 (some 8)
noncomputable def gCR_37 : Nat → Nat → Option Nat := gU gCR_36 0 2 (some 10)
noncomputable def gCI_28 : Nat → Nat → Int32 := gClr gCI_27 18 0
noncomputable def gCL_19 : Nat → Nat → Int64 := gClr gCL_18 18 0
noncomputable def gCR_38 : Nat → Nat → Option Nat := gClr gCR_37 18 none
noncomputable def gCI_29 : Nat → Nat → Int32 := gClr gCI_28 19 0
noncomputable def gCL_20 : Nat → Nat → Int64 := gClr gCL_19 19 0
noncomputable def gCR_39 : Nat → Nat → Option Nat := gClr gCR_38 19 none
noncomputable def gCR_40 : Nat → Nat → Option Nat := gU gCR_39 18 1 (some 19)
noncomputable def gCI_30 : Nat → Nat → Int32 := gClr gCI_29 20 0
noncomputable def gCL_21 : Nat → Nat → Int64 := gClr gCL_20 20 0
noncomputable def gCR_41 : Nat → Nat → Option Nat := gClr gCR_40 20 none
noncomputable def gCR_42 : Nat → Nat → Option Nat := gU gCR_41 18 2 (some 20)
noncomputable def gCR_43 : Nat → Nat → Option Nat := gU gCR_42 18 0 (some 8)
noncomputable def gCR_44 : Nat → Nat → Option Nat := gU gCR_43 0 3 (some 18)
noncomputable def gCI_31 : Nat → Nat → Int32 := gClr gCI_30 21 0
noncomputable def gCL_22 : Nat → Nat → Int64 := gClr gCL_21 21 0
noncomputable def gCR_45 : Nat → Nat → Option Nat := gClr gCR_44 21 none
noncomputable def gCR_46 : Nat → Nat → Option Nat := gU gCR_45 21 0 (some 8)
noncomputable def gCR_47 : Nat → Nat → Option Nat := gU gCR_46 21 1 (some 10)
noncomputable def gCR_48 : Nat → Nat → Option Nat := gU gCR_47 0 4 (some 21)
noncomputable def gCI_32 : Nat → Nat → Int32 := gClr gCI_31 22 0
noncomputable def gCL_23 : Nat → Nat → Int64 := gClr gCL_22 22 0
noncomputable def gCR_49 : Nat → Nat → Option Nat := gClr gCR_48 22 none
noncomputable def gCR_50 : Nat → Nat → Option Nat := gU gCR_49 22 0 (some 8)
noncomputable def gCR_51 : Nat → Nat → Option Nat := gU gCR_50 0 5 (some 22)
noncomputable def gCI_33 : Nat → Nat → Int32 := gClr gCI_32 23 0
noncomputable def gCL_24 : Nat → Nat → Int64 := gClr gCL_23 23 0
noncomputable def gCR_52 : Nat → Nat → Option Nat := gClr gCR_51 23 none
noncomputable def gCI_34 : Nat → Nat → Int32 := gClr gCI_33 24 0
noncomputable def gCL_25 : Nat → Nat → Int64 := gClr gCL_24 24 0
noncomputable def gCR_53 : Nat → Nat → Option Nat := gClr gCR_52 24 none
noncomputable def gCR_54 : Nat → Nat → Option Nat := gU gCR_53 23 1 (some 24)
noncomputable def gCI_35 : Nat → Nat → Int32 := gClr gCI_34 25 0
noncomputable def gCL_26 : Nat → Nat → Int64 := gClr gCL_25 25 0
noncomputable def gCR_55 : Nat → Nat → Option Nat := gClr gCR_54 25 none
noncomputable def gCR_56 : Nat → Nat → Option Nat := gU gCR_55 23 2 (some 25)
noncomputable def gCI_36 : Nat → Nat → Int32 := gU gCI_35 23 4 (-1)
noncomputable def gCR_57 : Nat → Nat → Option Nat := gU gCR_56 23 0 (some 8)
noncomputable def gCR_58 : Nat → Nat → Option Nat := gU gCR_57 0 6 (some 23)
noncomputable def gCI_37 : Nat → Nat → Int32 := gClr gCI_36 26 0
noncomputable def gCL_27 : Nat → Nat → Int64 := gClr gCL_26 26 0
noncomputable def gCR_59 : Nat → Nat → Option Nat := gClr gCR_58 26 none
noncomputable def gCI_38 : Nat → Nat → Int32 := gClr gCI_37 27 0
noncomputable def gCL_28 : Nat → Nat → Int64 := gClr gCL_27 27 0
noncomputable def gCR_60 : Nat → Nat → Option Nat := gClr gCR_59 27 none
noncomputable def gCR_61 : Nat → Nat → Option Nat := gU gCR_60 26 1 (some 27)
noncomputable def gCI_39 : Nat → Nat → Int32 := gClr gCI_38 28 0
noncomputable def gCL_29 : Nat → Nat → Int64 := gClr gCL_28 28 0
noncomputable def gCR_62 : Nat → Nat → Option Nat := gClr gCR_61 28 none
noncomputable def gCR_63 : Nat → Nat → Option Nat := gU gCR_62 26 2 (some 28)
noncomputable def gCI_40 : Nat → Nat → Int32 := gU gCI_39 26 4 (-1)
noncomputable def gCR_64 : Nat → Nat → Option Nat := gU gCR_63 26 0 (some 8)
noncomputable def gCR_65 : Nat → Nat → Option Nat := gU gCR_64 0 7 (some 26)
noncomputable def gCI_41 : Nat → Nat → Int32 := gClr gCI_40 29 0
noncomputable def gCL_30 : Nat → Nat → Int64 := gClr gCL_29 29 0
noncomputable def gCR_66 : Nat → Nat → Option Nat := gClr gCR_65 29 none
noncomputable def gCI_42 : Nat → Nat → Int32 := gClr gCI_41 30 0
noncomputable def gCL_31 : Nat → Nat → Int64 := gClr gCL_30 30 0
noncomputable def gCR_67 : Nat → Nat → Option Nat := gClr gCR_66 30 none
noncomputable def gCR_68 : Nat → Nat → Option Nat := gU gCR_67 29 1 (some 30)
noncomputable def gCI_43 : Nat → Nat → Int32 := gClr gCI_42 31 0
noncomputable def gCL_32 : Nat → Nat → Int64 := gClr gCL_31 31 0
noncomputable def gCR_69 : Nat → Nat → Option Nat := gClr gCR_68 31 none
noncomputable def gCR_70 : Nat → Nat → Option Nat := gU gCR_69 29 2 (some 31)
noncomputable def gCI_44 : Nat → Nat → Int32 := gClr gCI_43 32 0
noncomputable def gCL_33 : Nat → Nat → Int64 := gClr gCL_32 32 0
noncomputable def gCR_71 : Nat → Nat → Option Nat := gClr gCR_70 32 none
noncomputable def gCR_72 : Nat → Nat → Option Nat := gU gCR_71 29 3 (some 32)
noncomputable def gCI_45 : Nat → Nat → Int32 := gClr gCI_44 33 0
noncomputable def gCL_34 : Nat → Nat → Int64 := gClr gCL_33 33 0
noncomputable def gCR_73 : Nat → Nat → Option Nat := gClr gCR_72 33 none
noncomputable def gCR_74 : Nat → Nat → Option Nat := gU gCR_73 29 4 (some 33)
noncomputable def gCR_75 : Nat → Nat → Option Nat := gU gCR_74 29 0 (some 8)
noncomputable def gCR_76 : Nat → Nat → Option Nat := gU gCR_75 0 9 (some 29)
noncomputable def gCI_46 : Nat → Nat → Int32 := gClr gCI_45 34 0
noncomputable def gCL_35 : Nat → Nat → Int64 := gClr gCL_34 34 0
noncomputable def gCR_77 : Nat → Nat → Option Nat := gClr gCR_76 34 none
noncomputable def gCI_47 : Nat → Nat → Int32 := gClr gCI_46 35 0
noncomputable def gCL_36 : Nat → Nat → Int64 := gClr gCL_35 35 0
noncomputable def gCR_78 : Nat → Nat → Option Nat := gClr gCR_77 35 none
noncomputable def gCR_79 : Nat → Nat → Option Nat := gU gCR_78 34 0 (some 35)
noncomputable def gCI_48 : Nat → Nat → Int32 := gClr gCI_47 36 0
noncomputable def gCL_37 : Nat → Nat → Int64 := gClr gCL_36 36 0
noncomputable def gCR_80 : Nat → Nat → Option Nat := gClr gCR_79 36 none
noncomputable def gCR_81 : Nat → Nat → Option Nat := gU gCR_80 34 2 (some 36)
noncomputable def gCR_82 : Nat → Nat → Option Nat := gU gCR_81 0 10 (some 34)
noncomputable def gCI_49 : Nat → Nat → Int32 := gClr gCI_48 37 0
noncomputable def gCL_38 : Nat → Nat → Int64 := gClr gCL_37 37 0
noncomputable def gCR_83 : Nat → Nat → Option Nat := gClr gCR_82 37 none
noncomputable def gCR_84 : Nat → Nat → Option Nat := gU gCR_83 0 11 (some 37)
noncomputable def gCI_50 : Nat → Nat → Int32 := gClr gCI_49 38 0
noncomputable def gCL_39 : Nat → Nat → Int64 := gClr gCL_38 38 0
noncomputable def gCR_85 : Nat → Nat → Option Nat := gClr gCR_84 38 none
noncomputable def gCI_51 : Nat → Nat → Int32 := gU gCI_50 38 0 0
noncomputable def gCI_52 : Nat → Nat → Int32 := gClr gCI_51 39 0
noncomputable def gCL_40 : Nat → Nat → Int64 := gClr gCL_39 39 0
noncomputable def gCR_86 : Nat → Nat → Option Nat := gClr gCR_85 39 none
noncomputable def gCR_87 : Nat → Nat → Option Nat := gU gCR_86 38 4 (some 39)
noncomputable def gCR_88 : Nat → Nat → Option Nat := gU gCR_87 37 0 (some 38)
noncomputable def gCI_53 : Nat → Nat → Int32 := gClr gCI_52 40 0
noncomputable def gCL_41 : Nat → Nat → Int64 := gClr gCL_40 40 0
noncomputable def gCR_89 : Nat → Nat → Option Nat := gClr gCR_88 40 none
noncomputable def gCI_54 : Nat → Nat → Int32 := gU gCI_53 40 0 0
noncomputable def gCI_55 : Nat → Nat → Int32 := gClr gCI_54 41 0
noncomputable def gCL_42 : Nat → Nat → Int64 := gClr gCL_41 41 0
noncomputable def gCR_90 : Nat → Nat → Option Nat := gClr gCR_89 41 none
noncomputable def gCR_91 : Nat → Nat → Option Nat := gU gCR_90 40 4 (some 41)
noncomputable def gCR_92 : Nat → Nat → Option Nat := gU gCR_91 37 1 (some 40)
noncomputable def gCI_56 : Nat → Nat → Int32 := gClr gCI_55 42 0
noncomputable def gCL_43 : Nat → Nat → Int64 := gClr gCL_42 42 0
noncomputable def gCR_93 : Nat → Nat → Option Nat := gClr gCR_92 42 none
noncomputable def gCI_57 : Nat → Nat → Int32 := gU gCI_56 42 0 0
noncomputable def gCI_58 : Nat → Nat → Int32 := gClr gCI_57 43 0
noncomputable def gCL_44 : Nat → Nat → Int64 := gClr gCL_43 43 0
noncomputable def gCR_94 : Nat → Nat → Option Nat := gClr gCR_93 43 none
noncomputable def gCR_95 : Nat → Nat → Option Nat := gU gCR_94 42 4 (some 43)
noncomputable def gCR_96 : Nat → Nat → Option Nat := gU gCR_95 37 2 (some 42)
noncomputable def gCI_59 : Nat → Nat → Int32 := gClr gCI_58 44 0
noncomputable def gCL_45 : Nat → Nat → Int64 := gClr gCL_44 44 0
noncomputable def gCR_97 : Nat → Nat → Option Nat := gClr gCR_96 44 none
noncomputable def gCI_60 : Nat → Nat → Int32 := gU gCI_59 44 0 0
noncomputable def gCI_61 : Nat → Nat → Int32 := gClr gCI_60 45 0
noncomputable def gCL_46 : Nat → Nat → Int64 := gClr gCL_45 45 0
noncomputable def gCR_98 : Nat → Nat → Option Nat := gClr gCR_97 45 none
noncomputable def gCR_99 : Nat → Nat → Option Nat := gU gCR_98 44 4 (some 45)
noncomputable def gCR_100 : Nat → Nat → Option Nat := gU gCR_99 37 3 (some 44)
noncomputable def gCI_62 : Nat → Nat → Int32 := gClr gCI_61 46 0
noncomputable def gCL_47 : Nat → Nat → Int64 := gClr gCL_46 46 0
noncomputable def gCR_101 : Nat → Nat → Option Nat := gClr gCR_100 46 none
noncomputable def gCI_63 : Nat → Nat → Int32 := gU gCI_62 46 0 0
noncomputable def gCI_64 : Nat → Nat → Int32 := gClr gCI_63 47 0
noncomputable def gCL_48 : Nat → Nat → Int64 := gClr gCL_47 47 0
noncomputable def gCR_102 : Nat → Nat → Option Nat := gClr gCR_101 47 none
noncomputable def gCR_103 : Nat → Nat → Option Nat := gU gCR_102 46 4 (some 47)
noncomputable def gCR_104 : Nat → Nat → Option Nat := gU gCR_103 37 4 (some 46)
noncomputable def gCI_65 : Nat → Nat → Int32 := gClr gCI_64 48 0
noncomputable def gCL_49 : Nat → Nat → Int64 := gClr gCL_48 48 0
noncomputable def gCR_105 : Nat → Nat → Option Nat := gClr gCR_104 48 none
noncomputable def gCI_66 : Nat → Nat → Int32 := gU gCI_65 48 0 0
noncomputable def gCI_67 : Nat → Nat → Int32 := gClr gCI_66 49 0
noncomputable def gCL_50 : Nat → Nat → Int64 := gClr gCL_49 49 0
noncomputable def gCR_106 : Nat → Nat → Option Nat := gClr gCR_105 49 none
noncomputable def gCR_107 : Nat → Nat → Option Nat := gU gCR_106 48 4 (some 49)
noncomputable def gCR_108 : Nat → Nat → Option Nat := gU gCR_107 37 5 (some 48)
noncomputable def gCI_68 : Nat → Nat → Int32 := gClr gCI_67 50 0
noncomputable def gCL_51 : Nat → Nat → Int64 := gClr gCL_50 50 0
noncomputable def gCR_109 : Nat → Nat → Option Nat := gClr gCR_108 50 none
noncomputable def gCI_69 : Nat → Nat → Int32 := gClr gCI_68 51 0
noncomputable def gCL_52 : Nat → Nat → Int64 := gClr gCL_51 51 0
noncomputable def gCR_110 : Nat → Nat → Option Nat := gClr gCR_109 51 none
noncomputable def gCR_111 : Nat → Nat → Option Nat := gU gCR_110 50 2 (some 51)
noncomputable def gCI_70 : Nat → Nat → Int32 := gClr gCI_69 52 0
noncomputable def gCL_53 : Nat → Nat → Int64 := gClr gCL_52 52 0
noncomputable def gCR_112 : Nat → Nat → Option Nat := gClr gCR_111 52 none
noncomputable def gCR_113 : Nat → Nat → Option Nat := gU gCR_112 50 3 (some 52)
noncomputable def gCI_71 : Nat → Nat → Int32 := gClr gCI_70 53 0
noncomputable def gCL_54 : Nat → Nat → Int64 := gClr gCL_53 53 0
noncomputable def gCR_114 : Nat → Nat → Option Nat := gClr gCR_113 53 none
noncomputable def gCR_115 : Nat → Nat → Option Nat := gU gCR_114 50 4 (some 53)
noncomputable def gCI_72 : Nat → Nat → Int32 := gClr gCI_71 54 0
noncomputable def gCL_55 : Nat → Nat → Int64 := gClr gCL_54 54 0
noncomputable def gCR_116 : Nat → Nat → Option Nat := gClr gCR_115 54 none
noncomputable def gCR_117 : Nat → Nat → Option Nat := gU gCR_116 50 5 (some 54)
noncomputable def gCI_73 : Nat → Nat → Int32 := gClr gCI_72 55 0
noncomputable def gCL_56 : Nat → Nat → Int64 := gClr gCL_55 55 0
noncomputable def gCR_118 : Nat → Nat → Option Nat := gClr gCR_117 55 none
noncomputable def gCR_119 : Nat → Nat → Option Nat := gU gCR_118 50 6 (some 55)
noncomputable def gCI_74 : Nat → Nat → Int32 := gClr gCI_73 56 0
noncomputable def gCL_57 : Nat → Nat → Int64 := gClr gCL_56 56 0
noncomputable def gCR_120 : Nat → Nat → Option Nat := gClr gCR_119 56 none
noncomputable def gCI_75 : Nat → Nat → Int32 := gU gCI_74 56 0 0
noncomputable def gCI_76 : Nat → Nat → Int32 := gU gCI_75 56 1 180
noncomputable def gCI_77 : Nat → Nat → Int32 := gU gCI_76 56 2 20
noncomputable def gCI_78 : Nat → Nat → Int32 := gU gCI_77 56 3 60
noncomputable def gCI_79 : Nat → Nat → Int32 := gU gCI_78 56 4 90
noncomputable def gCI_80 : Nat → Nat → Int32 := gU gCI_79 56 5 3
noncomputable def gCI_81 : Nat → Nat → Int32 := gU gCI_80 56 6 20
noncomputable def gCI_82 : Nat → Nat → Int32 := gU gCI_81 56 7 60
noncomputable def gCI_83 : Nat → Nat → Int32 := gU gCI_82 56 8 20
noncomputable def gCR_121 : Nat → Nat → Option Nat := gU gCR_120 50 7 (some 56)
noncomputable def gCI_84 : Nat → Nat → Int32 := gClr gCI_83 57 0
noncomputable def gCL_58 : Nat → Nat → Int64 := gClr gCL_57 57 0
noncomputable def gCR_122 : Nat → Nat → Option Nat := gClr gCR_121 57 none
noncomputable def gCR_123 : Nat → Nat → Option Nat := gU gCR_122 50 10 (some 57)
noncomputable def gCI_85 : Nat → Nat → Int32 := gClr gCI_84 58 0
noncomputable def gCL_59 : Nat → Nat → Int64 := gClr gCL_58 58 0
noncomputable def gCR_124 : Nat → Nat → Option Nat := gClr gCR_123 58 none
noncomputable def gCR_125 : Nat → Nat → Option Nat := gU gCR_124 50 11 (some 58)
noncomputable def gCI_86 : Nat → Nat → Int32 := gClr gCI_85 59 0
noncomputable def gCL_60 : Nat → Nat → Int64 := gClr gCL_59 59 0
noncomputable def gCR_126 : Nat → Nat → Option Nat := gClr gCR_125 59 none
noncomputable def gCR_127 : Nat → Nat → Option Nat := gU gCR_126 50 12 (some 59)
noncomputable def gCI_87 : Nat → Nat → Int32 := gClr gCI_86 60 0
noncomputable def gCL_61 : Nat → Nat → Int64 := gClr gCL_60 60 0
noncomputable def gCR_128 : Nat → Nat → Option Nat := gClr gCR_127 60 none
noncomputable def gCR_129 : Nat → Nat → Option Nat := gU gCR_128 50 13 (some 60)
noncomputable def gCI_88 : Nat → Nat → Int32 := gClr gCI_87 61 0
noncomputable def gCL_62 : Nat → Nat → Int64 := gClr gCL_61 61 0
noncomputable def gCR_130 : Nat → Nat → Option Nat := gClr gCR_129 61 none
noncomputable def gCR_131 : Nat → Nat → Option Nat := gU gCR_130 50 14 (some 61)
noncomputable def gCI_89 : Nat → Nat → Int32 := gClr gCI_88 62 0
noncomputable def gCL_63 : Nat → Nat → Int64 := gClr gCL_62 62 0
noncomputable def gCR_132 : Nat → Nat → Option Nat := gClr gCR_131 62 none
noncomputable def gCR_133 : Nat → Nat → Option Nat := gU gCR_132 50 20 (some 62)
noncomputable def gCI_90 : Nat → Nat → Int32 := gClr gCI_89 63 0
noncomputable def gCL_64 : Nat → Nat → Int64 := gClr gCL_63 63 0
noncomputable def gCR_134 : Nat → Nat → Option Nat := gClr gCR_133 63 none
noncomputable def gCR_135 : Nat → Nat → Option Nat := gU gCR_134 50 21 (some 63)
noncomputable def gCI_91 : Nat → Nat → Int32 := gClr gCI_90 64 0
noncomputable def gCL_65 : Nat → Nat → Int64 := gClr gCL_64 64 0
noncomputable def gCR_136 : Nat → Nat → Option Nat := gClr gCR_135 64 none
noncomputable def gCR_137 : Nat → Nat → Option Nat := gU gCR_136 50 22 (some 64)
noncomputable def gCI_92 : Nat → Nat → Int32 := gClr gCI_91 65 0
noncomputable def gCL_66 : Nat → Nat → Int64 := gClr gCL_65 65 0
noncomputable def gCR_138 : Nat → Nat → Option Nat := gClr gCR_137 65 none
noncomputable def gCR_139 : Nat → Nat → Option Nat := gU gCR_138 50 23 (some 65)
noncomputable def gCI_93 : Nat → Nat → Int32 := gClr gCI_92 66 0
noncomputable def gCL_67 : Nat → Nat → Int64 := gClr gCL_66 66 0
noncomputable def gCR_140 : Nat → Nat → Option Nat := gClr gCR_139 66 none
noncomputable def gCR_141 : Nat → Nat → Option Nat := gU gCR_140 50 24 (some 66)
noncomputable def gCI_94 : Nat → Nat → Int32 := gClr gCI_93 67 0
noncomputable def gCL_68 : Nat → Nat → Int64 := gClr gCL_67 67 0
noncomputable def gCR_142 : Nat → Nat → Option Nat := gClr gCR_141 67 none
noncomputable def gCR_143 : Nat → Nat → Option Nat := gU gCR_142 50 25 (some 67)
noncomputable def gCI_95 : Nat → Nat → Int32 := gClr gCI_94 68 0
noncomputable def gCL_69 : Nat → Nat → Int64 := gClr gCL_68 68 0
noncomputable def gCR_144 : Nat → Nat → Option Nat := gClr gCR_143 68 none
noncomputable def gCR_145 : Nat → Nat → Option Nat := gU gCR_144 50 26 (some 68)
noncomputable def gCI_96 : Nat → Nat → Int32 := gClr gCI_95 69 0
noncomputable def gCL_70 : Nat → Nat → Int64 := gClr gCL_69 69 0
noncomputable def gCR_146 : Nat → Nat → Option Nat := gClr gCR_145 69 none
noncomputable def gCR_147 : Nat → Nat → Option Nat := gU gCR_146 50 28 (some 69)
noncomputable def gCI_97 : Nat → Nat → Int32 := gClr gCI_96 70 0
noncomputable def gCL_71 : Nat → Nat → Int64 := gClr gCL_70 70 0
noncomputable def gCR_148 : Nat → Nat → Option Nat := gClr gCR_147 70 none
noncomputable def gCR_149 : Nat → Nat → Option Nat := gU gCR_148 50 29 (some 70)
noncomputable def gCI_98 : Nat → Nat → Int32 := gClr gCI_97 71 0
noncomputable def gCL_72 : Nat → Nat → Int64 := gClr gCL_71 71 0
noncomputable def gCR_150 : Nat → Nat → Option Nat := gClr gCR_149 71 none
noncomputable def gCR_151 : Nat → Nat → Option Nat := gU gCR_150 50 36 (some 71)
noncomputable def gCI_99 : Nat → Nat → Int32 := gClr gCI_98 72 0
noncomputable def gCL_73 : Nat → Nat → Int64 := gClr gCL_72 72 0
noncomputable def gCR_152 : Nat → Nat → Option Nat := gClr gCR_151 72 none
noncomputable def gCR_153 : Nat → Nat → Option Nat := gU gCR_152 50 37 (some 72)
noncomputable def gCI_100 : Nat → Nat → Int32 := gClr gCI_99 73 0
noncomputable def gCL_74 : Nat → Nat → Int64 := gClr gCL_73 73 0
noncomputable def gCR_154 : Nat → Nat → Option Nat := gClr gCR_153 73 none
noncomputable def gCR_155 : Nat → Nat → Option Nat := gU gCR_154 50 39 (some 73)
noncomputable def gCI_101 : Nat → Nat → Int32 := gClr gCI_100 74 0
noncomputable def gCL_75 : Nat → Nat → Int64 := gClr gCL_74 74 0
noncomputable def gCR_156 : Nat → Nat → Option Nat := gClr gCR_155 74 none
noncomputable def gCR_157 : Nat → Nat → Option Nat := gU gCR_156 50 40 (some 74)
noncomputable def gCI_102 : Nat → Nat → Int32 := gClr gCI_101 75 0
noncomputable def gCL_76 : Nat → Nat → Int64 := gClr gCL_75 75 0
noncomputable def gCR_158 : Nat → Nat → Option Nat := gClr gCR_157 75 none
noncomputable def gCR_159 : Nat → Nat → Option Nat := gU gCR_158 50 42 (some 75)
noncomputable def gCI_103 : Nat → Nat → Int32 := gClr gCI_102 76 0
noncomputable def gCL_77 : Nat → Nat → Int64 := gClr gCL_76 76 0
noncomputable def gCR_160 : Nat → Nat → Option Nat := gClr gCR_159 76 none
noncomputable def gCR_161 : Nat → Nat → Option Nat := gU gCR_160 50 43 (some 76)
noncomputable def gCI_104 : Nat → Nat → Int32 := gU gCI_103 50 44 (-1)
noncomputable def gCI_105 : Nat → Nat → Int32 := gClr gCI_104 77 0
noncomputable def gCL_78 : Nat → Nat → Int64 := gClr gCL_77 77 0
noncomputable def gCR_162 : Nat → Nat → Option Nat := gClr gCR_161 77 none
noncomputable def gCR_163 : Nat → Nat → Option Nat := gU gCR_162 50 46 (some 77)
noncomputable def gCI_106 : Nat → Nat → Int32 := gClr gCI_105 78 0
noncomputable def gCL_79 : Nat → Nat → Int64 := gClr gCL_78 78 0
noncomputable def gCR_164 : Nat → Nat → Option Nat := gClr gCR_163 78 none
noncomputable def gCR_165 : Nat → Nat → Option Nat := gU gCR_164 50 51 (some 78)
noncomputable def gCI_107 : Nat → Nat → Int32 := gClr gCI_106 79 0
noncomputable def gCL_80 : Nat → Nat → Int64 := gClr gCL_79 79 0
noncomputable def gCR_166 : Nat → Nat → Option Nat := gClr gCR_165 79 none
noncomputable def gCR_167 : Nat → Nat → Option Nat := gU gCR_166 50 52 (some 79)
noncomputable def gCI_108 : Nat → Nat → Int32 := gClr gCI_107 80 0
noncomputable def gCL_81 : Nat → Nat → Int64 := gClr gCL_80 80 0
noncomputable def gCR_168 : Nat → Nat → Option Nat := gClr gCR_167 80 none
noncomputable def gCR_169 : Nat → Nat → Option Nat := gU gCR_168 50 53 (some 80)
noncomputable def gCI_109 : Nat → Nat → Int32 := gClr gCI_108 81 0
noncomputable def gCL_82 : Nat → Nat → Int64 := gClr gCL_81 81 0
noncomputable def gCR_170 : Nat → Nat → Option Nat := gClr gCR_169 81 none
noncomputable def gCR_171 : Nat → Nat → Option Nat := gU gCR_170 50 55 (some 81)
noncomputable def gCI_110 : Nat → Nat → Int32 := gClr gCI_109 82 0
noncomputable def gCL_83 : Nat → Nat → Int64 := gClr gCL_82 82 0
noncomputable def gCR_172 : Nat → Nat → Option Nat := gClr gCR_171 82 none
noncomputable def gCR_173 : Nat → Nat → Option Nat := gU gCR_172 50 57 (some 82)
noncomputable def gCI_111 : Nat → Nat → Int32 := gClr gCI_110 83 0
noncomputable def gCL_84 : Nat → Nat → Int64 := gClr gCL_83 83 0
noncomputable def gCR_174 : Nat → Nat → Option Nat := gClr gCR_173 83 none
noncomputable def gCI_112 : Nat → Nat → Int32 := gU gCI_111 83 0 (-1)
noncomputable def gCI_113 : Nat → Nat → Int32 := gU gCI_112 83 1 (-1)
noncomputable def gCI_114 : Nat → Nat → Int32 := gU gCI_113 83 2 (-1)
noncomputable def gCI_115 : Nat → Nat → Int32 := gU gCI_114 83 3 (-1)
noncomputable def gCI_116 : Nat → Nat → Int32 := gU gCI_115 83 4 (-1)
noncomputable def gCI_117 : Nat → Nat → Int32 := gU gCI_116 83 5 (-1)
noncomputable def gCR_175 : Nat → Nat → Option Nat := gU gCR_174 50 58 (some 83)
noncomputable def gCI_118 : Nat → Nat → Int32 := gClr gCI_117 84 0
noncomputable def gCL_85 : Nat → Nat → Int64 := gClr gCL_84 84 0
noncomputable def gCR_176 : Nat → Nat → Option Nat := gClr gCR_175 84 none
noncomputable def gCR_177 : Nat → Nat → Option Nat := gU gCR_176 50 59 (some 84)
noncomputable def gCI_119 : Nat → Nat → Int32 := gClr gCI_118 85 0
noncomputable def gCL_86 : Nat → Nat → Int64 := gClr gCL_85 85 0
noncomputable def gCR_178 : Nat → Nat → Option Nat := gClr gCR_177 85 none
noncomputable def gCR_179 : Nat → Nat → Option Nat := gU gCR_178 50 60 (some 85)
noncomputable def gCI_120 : Nat → Nat → Int32 := gClr gCI_119 86 0
noncomputable def gCL_87 : Nat → Nat → Int64 := gClr gCL_86 86 0
noncomputable def gCR_180 : Nat → Nat → Option Nat := gClr gCR_179 86 none
noncomputable def gCR_181 : Nat → Nat → Option Nat := gU gCR_180 50 61 (some 86)
theorem ct_0_24 {X : Nat × (Nat → Int32)} {d : Nat} : gW X (d + 2) 24 0 6 725 (gEn 24 [.ref 1]) [] (gK 2, gCI_2, gCL_2, gCR_2) (fun r σ => r = none ∧ σ = (gK 8, gCI_8, gCL_8, gCR_14)) := by
  show gW _ _ _ _ _ _ [some (.ref 1)] _ _ _
  refine w_aload rfl rfl ?_
  refine w_objI rfl (by decide) ?_
  refine w_aload rfl rfl ?_
  refine w_pushI rfl ?_
  refine w_newAN (K2 := gK 3) (a := 2) (N := 120) (m2 := 5) (n2 := 605) rfl rfl rfl (by decide) (by decide) (by decide) (by decide) (by decide) (by decide) ?_
  refine w_putR rfl rfl ?_
  refine w_aload rfl rfl ?_
  refine w_pushI rfl ?_
  refine w_newAN (K2 := gK 4) (a := 3) (N := 121) (m2 := 4) (n2 := 484) rfl rfl rfl (by decide) (by decide) (by decide) (by decide) (by decide) (by decide) ?_
  refine w_putR rfl rfl ?_
  refine w_aload rfl rfl ?_
  refine w_pushI rfl ?_
  refine w_newAN (K2 := gK 5) (a := 4) (N := 121) (m2 := 3) (n2 := 363) rfl rfl rfl (by decide) (by decide) (by decide) (by decide) (by decide) (by decide) ?_
  refine w_putR rfl rfl ?_
  refine w_aload rfl rfl ?_
  refine w_pushI rfl ?_
  refine w_newAN (K2 := gK 6) (a := 5) (N := 121) (m2 := 2) (n2 := 242) rfl rfl rfl (by decide) (by decide) (by decide) (by decide) (by decide) (by decide) ?_
  refine w_putR rfl rfl ?_
  refine w_aload rfl rfl ?_
  refine w_pushI rfl ?_
  refine w_newAN (K2 := gK 7) (a := 6) (N := 121) (m2 := 1) (n2 := 121) rfl rfl rfl (by decide) (by decide) (by decide) (by decide) (by decide) (by decide) ?_
  refine w_putR rfl rfl ?_
  refine w_aload rfl rfl ?_
  refine w_pushI rfl ?_
  refine w_newAN (K2 := gK 8) (a := 7) (N := 121) (m2 := 0) (n2 := 0) rfl rfl rfl (by decide) (by decide) (by decide) (by decide) (by decide) (by decide) ?_
  refine w_putR rfl rfl ?_
  exact w_vret rfl rfl ⟨rfl, rfl⟩
theorem ct_2_85 {X : Nat × (Nat → Int32)} {d : Nat} : gW X (d + 2) 85 0 1 54 (gEn 85 [.ref 8, .ref 1]) [] (gK 9, gCI_9, gCL_9, gCR_16) (fun r σ => r = none ∧ σ = (gK 10, gCI_19, gCL_10, gCR_19)) := by
  show gW _ _ _ _ _ _ [some (.ref 8), some (.ref 1), none] _ _ _
  refine w_aload rfl rfl ?_
  refine w_objI rfl (by decide) ?_
  refine w_aload rfl rfl ?_
  refine w_pushI rfl ?_
  refine w_newAN (K2 := gK 10) (a := 9) (N := 54) (m2 := 0) (n2 := 0) rfl rfl rfl (by decide) (by decide) (by decide) (by decide) (by decide) (by decide) ?_
  refine w_putR rfl rfl ?_
  refine w_aload rfl rfl ?_
  refine w_aload rfl rfl ?_
  refine w_putR rfl rfl ?_
  refine w_pushI rfl ?_
  refine w_istore rfl rfl ?_
  refine w_iload rfl rfl ?_
  refine w_pushI rfl ?_
  refine w_icmp_ge rfl (fun h => absurd h (by decide)) (fun _ => ?_)
  refine w_aload rfl rfl ?_
  refine w_getR rfl rfl rfl ?_
  refine w_pushI rfl ?_
  refine w_iload rfl rfl ?_
  refine w_iadd rfl ?_
  refine w_getS rfl ?_
  refine w_iload rfl rfl ?_
  refine w_sald rfl (by decide) (show vp_in _ 14 by unfold vp_in; decide) ?_
  refine w_iast rfl rfl (by unfold vp_in; decide) ?_
  refine w_iinc rfl rfl rfl ?_
  refine w_goto rfl ?_
  refine w_iload rfl rfl ?_
  refine w_pushI rfl ?_
  refine w_icmp_ge rfl (fun h => absurd h (by decide)) (fun _ => ?_)
  refine w_aload rfl rfl ?_
  refine w_getR rfl rfl rfl ?_
  refine w_pushI rfl ?_
  refine w_iload rfl rfl ?_
  refine w_iadd rfl ?_
  refine w_getS rfl ?_
  refine w_iload rfl rfl ?_
  refine w_sald rfl (by decide) (show vp_in _ 14 by unfold vp_in; decide) ?_
  refine w_iast rfl rfl (by unfold vp_in; decide) ?_
  refine w_iinc rfl rfl rfl ?_
  refine w_goto rfl ?_
  refine w_iload rfl rfl ?_
  refine w_pushI rfl ?_
  refine w_icmp_ge rfl (fun h => absurd h (by decide)) (fun _ => ?_)
  refine w_aload rfl rfl ?_
  refine w_getR rfl rfl rfl ?_
  refine w_pushI rfl ?_
  refine w_iload rfl rfl ?_
  refine w_iadd rfl ?_
  refine w_getS rfl ?_
  refine w_iload rfl rfl ?_
  refine w_sald rfl (by decide) (show vp_in _ 14 by unfold vp_in; decide) ?_
  refine w_iast rfl rfl (by unfold vp_in; decide) ?_
  refine w_iinc rfl rfl rfl ?_
  refine w_goto rfl ?_
  refine w_iload rfl rfl ?_
  refine w_pushI rfl ?_
  refine w_icmp_ge rfl (fun h => absurd h (by decide)) (fun _ => ?_)
  refine w_aload rfl rfl ?_
  refine w_getR rfl rfl rfl ?_
  refine w_pushI rfl ?_
  refine w_iload rfl rfl ?_
  refine w_iadd rfl ?_
  refine w_getS rfl ?_
  refine w_iload rfl rfl ?_
  refine w_sald rfl (by decide) (show vp_in _ 14 by unfold vp_in; decide) ?_
  refine w_iast rfl rfl (by unfold vp_in; decide) ?_
  refine w_iinc rfl rfl rfl ?_
  refine w_goto rfl ?_
  refine w_iload rfl rfl ?_
  refine w_pushI rfl ?_
  refine w_icmp_ge rfl (fun h => absurd h (by decide)) (fun _ => ?_)
  refine w_aload rfl rfl ?_
  refine w_getR rfl rfl rfl ?_
  refine w_pushI rfl ?_
  refine w_iload rfl rfl ?_
  refine w_iadd rfl ?_
  refine w_getS rfl ?_
  refine w_iload rfl rfl ?_
  refine w_sald rfl (by decide) (show vp_in _ 14 by unfold vp_in; decide) ?_
  refine w_iast rfl rfl (by unfold vp_in; decide) ?_
  refine w_iinc rfl rfl rfl ?_
  refine w_goto rfl ?_
  refine w_iload rfl rfl ?_
  refine w_pushI rfl ?_
  refine w_icmp_ge rfl (fun h => absurd h (by decide)) (fun _ => ?_)
  refine w_aload rfl rfl ?_
  refine w_getR rfl rfl rfl ?_
  refine w_pushI rfl ?_
  refine w_iload rfl rfl ?_
  refine w_iadd rfl ?_
  refine w_getS rfl ?_
  refine w_iload rfl rfl ?_
  refine w_sald rfl (by decide) (show vp_in _ 14 by unfold vp_in; decide) ?_
  refine w_iast rfl rfl (by unfold vp_in; decide) ?_
  refine w_iinc rfl rfl rfl ?_
  refine w_goto rfl ?_
  refine w_iload rfl rfl ?_
  refine w_pushI rfl ?_
  refine w_icmp_ge rfl (fun h => absurd h (by decide)) (fun _ => ?_)
  refine w_aload rfl rfl ?_
  refine w_getR rfl rfl rfl ?_
  refine w_pushI rfl ?_
  refine w_iload rfl rfl ?_
  refine w_iadd rfl ?_
  refine w_getS rfl ?_
  refine w_iload rfl rfl ?_
  refine w_sald rfl (by decide) (show vp_in _ 14 by unfold vp_in; decide) ?_
  refine w_iast rfl rfl (by unfold vp_in; decide) ?_
  refine w_iinc rfl rfl rfl ?_
  refine w_goto rfl ?_
  refine w_iload rfl rfl ?_
  refine w_pushI rfl ?_
  refine w_icmp_ge rfl (fun h => absurd h (by decide)) (fun _ => ?_)
  refine w_aload rfl rfl ?_
  refine w_getR rfl rfl rfl ?_
  refine w_pushI rfl ?_
  refine w_iload rfl rfl ?_
  refine w_iadd rfl ?_
  refine w_getS rfl ?_
  refine w_iload rfl rfl ?_
  refine w_sald rfl (by decide) (show vp_in _ 14 by unfold vp_in; decide) ?_
  refine w_iast rfl rfl (by unfold vp_in; decide) ?_
  refine w_iinc rfl rfl rfl ?_
  refine w_goto rfl ?_
  refine w_iload rfl rfl ?_
  refine w_pushI rfl ?_
  refine w_icmp_ge rfl (fun h => absurd h (by decide)) (fun _ => ?_)
  refine w_aload rfl rfl ?_
  refine w_getR rfl rfl rfl ?_
  refine w_pushI rfl ?_
  refine w_iload rfl rfl ?_
  refine w_iadd rfl ?_
  refine w_getS rfl ?_
  refine w_iload rfl rfl ?_
  refine w_sald rfl (by decide) (show vp_in _ 14 by unfold vp_in; decide) ?_
  refine w_iast rfl rfl (by unfold vp_in; decide) ?_
  refine w_iinc rfl rfl rfl ?_
  refine w_goto rfl ?_
  refine w_iload rfl rfl ?_
  refine w_pushI rfl ?_
  refine w_icmp_ge rfl (fun _ => ?_) (fun h => absurd (by decide) h)
  exact w_vret rfl rfl ⟨rfl, rfl⟩
theorem ct_4_76 {X : Nat × (Nat → Int32)} {d : Nat} : gW X (d + 2) 76 0 7 166 (gEn 76 [.ref 10, .ref 8]) [] (gK 11, gCI_20, gCL_11, gCR_21) (fun r σ => r = none ∧ σ = (gK 18, gCI_27, gCL_18, gCR_36)) := by
  show gW _ _ _ _ _ _ [some (.ref 10), some (.ref 8)] _ _ _
  refine w_aload rfl rfl ?_
  refine w_objI rfl (by decide) ?_
  refine w_aload rfl rfl ?_
  refine w_pushI rfl ?_
  refine w_newAN (K2 := gK 12) (a := 11) (N := 8) (m2 := 6) (n2 := 158) rfl rfl rfl (by decide) (by decide) (by decide) (by decide) (by decide) (by decide) ?_
  refine w_putR rfl rfl ?_
  refine w_aload rfl rfl ?_
  refine w_pushI rfl ?_
  refine w_newAN (K2 := gK 13) (a := 12) (N := 8) (m2 := 5) (n2 := 150) rfl rfl rfl (by decide) (by decide) (by decide) (by decide) (by decide) (by decide) ?_
  refine w_putR rfl rfl ?_
  refine w_aload rfl rfl ?_
  refine w_pushI rfl ?_
  refine w_newAN (K2 := gK 14) (a := 13) (N := 30) (m2 := 4) (n2 := 120) rfl rfl rfl (by decide) (by decide) (by decide) (by decide) (by decide) (by decide) ?_
  refine w_putR rfl rfl ?_
  refine w_aload rfl rfl ?_
  refine w_pushI rfl ?_
  refine w_newAN (K2 := gK 15) (a := 14) (N := 30) (m2 := 3) (n2 := 90) rfl rfl rfl (by decide) (by decide) (by decide) (by decide) (by decide) (by decide) ?_
  refine w_putR rfl rfl ?_
  refine w_aload rfl rfl ?_
  refine w_pushI rfl ?_
  refine w_newAN (K2 := gK 16) (a := 15) (N := 30) (m2 := 2) (n2 := 60) rfl rfl rfl (by decide) (by decide) (by decide) (by decide) (by decide) (by decide) ?_
  refine w_putR rfl rfl ?_
  refine w_aload rfl rfl ?_
  refine w_pushI rfl ?_
  refine w_newAN (K2 := gK 17) (a := 16) (N := 30) (m2 := 1) (n2 := 30) rfl rfl rfl (by decide) (by decide) (by decide) (by decide) (by decide) (by decide) ?_
  refine w_putR rfl rfl ?_
  refine w_aload rfl rfl ?_
  refine w_pushI rfl ?_
  refine w_newAN (K2 := gK 18) (a := 17) (N := 30) (m2 := 0) (n2 := 0) rfl rfl rfl (by decide) (by decide) (by decide) (by decide) (by decide) (by decide) ?_
  refine w_putR rfl rfl ?_
  refine w_aload rfl rfl ?_
  refine w_aload rfl rfl ?_
  refine w_putR rfl rfl ?_
  exact w_vret rfl rfl ⟨rfl, rfl⟩
theorem ct_6_50 {X : Nat × (Nat → Int32)} {d : Nat} : gW X (d + 2) 50 0 2 12 (gEn 50 [.ref 18, .ref 8]) [] (gK 19, gCI_28, gCL_19, gCR_38) (fun r σ => r = none ∧ σ = (gK 21, gCI_30, gCL_21, gCR_43)) := by
  show gW _ _ _ _ _ _ [some (.ref 18), some (.ref 8)] _ _ _
  refine w_aload rfl rfl ?_
  refine w_objI rfl (by decide) ?_
  refine w_aload rfl rfl ?_
  refine w_pushI rfl ?_
  refine w_newAN (K2 := gK 20) (a := 19) (N := 6) (m2 := 1) (n2 := 6) rfl rfl rfl (by decide) (by decide) (by decide) (by decide) (by decide) (by decide) ?_
  refine w_putR rfl rfl ?_
  refine w_aload rfl rfl ?_
  refine w_pushI rfl ?_
  refine w_newAN (K2 := gK 21) (a := 20) (N := 6) (m2 := 0) (n2 := 0) rfl rfl rfl (by decide) (by decide) (by decide) (by decide) (by decide) (by decide) ?_
  refine w_putR rfl rfl ?_
  refine w_aload rfl rfl ?_
  refine w_aload rfl rfl ?_
  refine w_putR rfl rfl ?_
  exact w_vret rfl rfl ⟨rfl, rfl⟩
theorem ct_8_44 {X : Nat × (Nat → Int32)} {d : Nat} : gW X (d + 2) 44 0 0 0 (gEn 44 [.ref 21, .ref 8, .ref 10]) [] (gK 22, gCI_31, gCL_22, gCR_45) (fun r σ => r = none ∧ σ = (gK 22, gCI_31, gCL_22, gCR_47)) := by
  show gW _ _ _ _ _ _ [some (.ref 21), some (.ref 8), some (.ref 10)] _ _ _
  refine w_aload rfl rfl ?_
  refine w_objI rfl (by decide) ?_
  refine w_aload rfl rfl ?_
  refine w_aload rfl rfl ?_
  refine w_putR rfl rfl ?_
  refine w_aload rfl rfl ?_
  refine w_aload rfl rfl ?_
  refine w_putR rfl rfl ?_
  exact w_vret rfl rfl ⟨rfl, rfl⟩
theorem ct_10_55 {X : Nat × (Nat → Int32)} {d : Nat} : gW X (d + 2) 55 0 0 0 (gEn 55 [.ref 22, .ref 8]) [] (gK 23, gCI_32, gCL_23, gCR_49) (fun r σ => r = none ∧ σ = (gK 23, gCI_32, gCL_23, gCR_50)) := by
  show gW _ _ _ _ _ _ [some (.ref 22), some (.ref 8)] _ _ _
  refine w_aload rfl rfl ?_
  refine w_objI rfl (by decide) ?_
  refine w_aload rfl rfl ?_
  refine w_aload rfl rfl ?_
  refine w_putR rfl rfl ?_
  exact w_vret rfl rfl ⟨rfl, rfl⟩
theorem ct_12_18 {X : Nat × (Nat → Int32)} {d : Nat} : gW X (d + 2) 18 0 2 16 (gEn 18 [.ref 23, .ref 8]) [] (gK 24, gCI_33, gCL_24, gCR_52) (fun r σ => r = none ∧ σ = (gK 26, gCI_36, gCL_26, gCR_57)) := by
  show gW _ _ _ _ _ _ [some (.ref 23), some (.ref 8)] _ _ _
  refine w_aload rfl rfl ?_
  refine w_objI rfl (by decide) ?_
  refine w_aload rfl rfl ?_
  refine w_pushI rfl ?_
  refine w_newAN (K2 := gK 25) (a := 24) (N := 8) (m2 := 1) (n2 := 8) rfl rfl rfl (by decide) (by decide) (by decide) (by decide) (by decide) (by decide) ?_
  refine w_putR rfl rfl ?_
  refine w_aload rfl rfl ?_
  refine w_pushI rfl ?_
  refine w_newAN (K2 := gK 26) (a := 25) (N := 8) (m2 := 0) (n2 := 0) rfl rfl rfl (by decide) (by decide) (by decide) (by decide) (by decide) (by decide) ?_
  refine w_putR rfl rfl ?_
  refine w_aload rfl rfl ?_
  refine w_pushI rfl ?_
  refine w_putI rfl rfl ?_
  refine w_aload rfl rfl ?_
  refine w_aload rfl rfl ?_
  refine w_putR rfl rfl ?_
  exact w_vret rfl rfl ⟨rfl, rfl⟩
theorem ct_14_18 {X : Nat × (Nat → Int32)} {d : Nat} : gW X (d + 2) 18 0 2 16 (gEn 18 [.ref 26, .ref 8]) [] (gK 27, gCI_37, gCL_27, gCR_59) (fun r σ => r = none ∧ σ = (gK 29, gCI_40, gCL_29, gCR_64)) := by
  show gW _ _ _ _ _ _ [some (.ref 26), some (.ref 8)] _ _ _
  refine w_aload rfl rfl ?_
  refine w_objI rfl (by decide) ?_
  refine w_aload rfl rfl ?_
  refine w_pushI rfl ?_
  refine w_newAN (K2 := gK 28) (a := 27) (N := 8) (m2 := 1) (n2 := 8) rfl rfl rfl (by decide) (by decide) (by decide) (by decide) (by decide) (by decide) ?_
  refine w_putR rfl rfl ?_
  refine w_aload rfl rfl ?_
  refine w_pushI rfl ?_
  refine w_newAN (K2 := gK 29) (a := 28) (N := 8) (m2 := 0) (n2 := 0) rfl rfl rfl (by decide) (by decide) (by decide) (by decide) (by decide) (by decide) ?_
  refine w_putR rfl rfl ?_
  refine w_aload rfl rfl ?_
  refine w_pushI rfl ?_
  refine w_putI rfl rfl ?_
  refine w_aload rfl rfl ?_
  refine w_aload rfl rfl ?_
  refine w_putR rfl rfl ?_
  exact w_vret rfl rfl ⟨rfl, rfl⟩
theorem ct_16_13 {X : Nat × (Nat → Int32)} {d : Nat} : gW X (d + 2) 13 0 4 160 (gEn 13 [.ref 29, .ref 8]) [] (gK 30, gCI_41, gCL_30, gCR_66) (fun r σ => r = none ∧ σ = (gK 34, gCI_45, gCL_34, gCR_75)) := by
  show gW _ _ _ _ _ _ [some (.ref 29), some (.ref 8)] _ _ _
  refine w_aload rfl rfl ?_
  refine w_objI rfl (by decide) ?_
  refine w_aload rfl rfl ?_
  refine w_pushI rfl ?_
  refine w_newAN (K2 := gK 31) (a := 30) (N := 40) (m2 := 3) (n2 := 120) rfl rfl rfl (by decide) (by decide) (by decide) (by decide) (by decide) (by decide) ?_
  refine w_putR rfl rfl ?_
  refine w_aload rfl rfl ?_
  refine w_pushI rfl ?_
  refine w_newAN (K2 := gK 32) (a := 31) (N := 40) (m2 := 2) (n2 := 80) rfl rfl rfl (by decide) (by decide) (by decide) (by decide) (by decide) (by decide) ?_
  refine w_putR rfl rfl ?_
  refine w_aload rfl rfl ?_
  refine w_pushI rfl ?_
  refine w_newAN (K2 := gK 33) (a := 32) (N := 40) (m2 := 1) (n2 := 40) rfl rfl rfl (by decide) (by decide) (by decide) (by decide) (by decide) (by decide) ?_
  refine w_putR rfl rfl ?_
  refine w_aload rfl rfl ?_
  refine w_pushI rfl ?_
  refine w_newAN (K2 := gK 34) (a := 33) (N := 40) (m2 := 0) (n2 := 0) rfl rfl rfl (by decide) (by decide) (by decide) (by decide) (by decide) (by decide) ?_
  refine w_putR rfl rfl ?_
  refine w_aload rfl rfl ?_
  refine w_aload rfl rfl ?_
  refine w_putR rfl rfl ?_
  exact w_vret rfl rfl ⟨rfl, rfl⟩
theorem ct_18_0 {X : Nat × (Nat → Int32)} {d : Nat} : gW X (d + 2) 0 0 2 74 (gEn 0 [.ref 34]) [] (gK 35, gCI_46, gCL_35, gCR_77) (fun r σ => r = none ∧ σ = (gK 37, gCI_48, gCL_37, gCR_81)) := by
  show gW _ _ _ _ _ _ [some (.ref 34)] _ _ _
  refine w_aload rfl rfl ?_
  refine w_objI rfl (by decide) ?_
  refine w_aload rfl rfl ?_
  refine w_pushI rfl ?_
  refine w_newAN (K2 := gK 36) (a := 35) (N := 50) (m2 := 1) (n2 := 24) rfl rfl rfl (by decide) (by decide) (by decide) (by decide) (by decide) (by decide) ?_
  refine w_putR rfl rfl ?_
  refine w_aload rfl rfl ?_
  refine w_pushI rfl ?_
  refine w_newAN (K2 := gK 37) (a := 36) (N := 24) (m2 := 0) (n2 := 0) rfl rfl rfl (by decide) (by decide) (by decide) (by decide) (by decide) (by decide) ?_
  refine w_putR rfl rfl ?_
  exact w_vret rfl rfl ⟨rfl, rfl⟩
theorem ct_20_60 {X : Nat × (Nat → Int32)} {d : Nat} : gW X (d + 2) 60 0 1 60 (gEn 60 [.ref 38]) [] (gK 39, gCI_50, gCL_39, gCR_85) (fun r σ => r = none ∧ σ = (gK 40, gCI_52, gCL_40, gCR_87)) := by
  show gW _ _ _ _ _ _ [some (.ref 38)] _ _ _
  refine w_aload rfl rfl ?_
  refine w_objI rfl (by decide) ?_
  refine w_aload rfl rfl ?_
  refine w_pushI rfl ?_
  refine w_putI rfl rfl ?_
  refine w_aload rfl rfl ?_
  refine w_pushI rfl ?_
  refine w_newAN (K2 := gK 40) (a := 39) (N := 60) (m2 := 0) (n2 := 0) rfl rfl rfl (by decide) (by decide) (by decide) (by decide) (by decide) (by decide) ?_
  refine w_putR rfl rfl ?_
  exact w_vret rfl rfl ⟨rfl, rfl⟩
theorem ct_22_60 {X : Nat × (Nat → Int32)} {d : Nat} : gW X (d + 2) 60 0 1 60 (gEn 60 [.ref 40]) [] (gK 41, gCI_53, gCL_41, gCR_89) (fun r σ => r = none ∧ σ = (gK 42, gCI_55, gCL_42, gCR_91)) := by
  show gW _ _ _ _ _ _ [some (.ref 40)] _ _ _
  refine w_aload rfl rfl ?_
  refine w_objI rfl (by decide) ?_
  refine w_aload rfl rfl ?_
  refine w_pushI rfl ?_
  refine w_putI rfl rfl ?_
  refine w_aload rfl rfl ?_
  refine w_pushI rfl ?_
  refine w_newAN (K2 := gK 42) (a := 41) (N := 60) (m2 := 0) (n2 := 0) rfl rfl rfl (by decide) (by decide) (by decide) (by decide) (by decide) (by decide) ?_
  refine w_putR rfl rfl ?_
  exact w_vret rfl rfl ⟨rfl, rfl⟩
theorem ct_24_60 {X : Nat × (Nat → Int32)} {d : Nat} : gW X (d + 2) 60 0 1 60 (gEn 60 [.ref 42]) [] (gK 43, gCI_56, gCL_43, gCR_93) (fun r σ => r = none ∧ σ = (gK 44, gCI_58, gCL_44, gCR_95)) := by
  show gW _ _ _ _ _ _ [some (.ref 42)] _ _ _
  refine w_aload rfl rfl ?_
  refine w_objI rfl (by decide) ?_
  refine w_aload rfl rfl ?_
  refine w_pushI rfl ?_
  refine w_putI rfl rfl ?_
  refine w_aload rfl rfl ?_
  refine w_pushI rfl ?_
  refine w_newAN (K2 := gK 44) (a := 43) (N := 60) (m2 := 0) (n2 := 0) rfl rfl rfl (by decide) (by decide) (by decide) (by decide) (by decide) (by decide) ?_
  refine w_putR rfl rfl ?_
  exact w_vret rfl rfl ⟨rfl, rfl⟩
theorem ct_26_60 {X : Nat × (Nat → Int32)} {d : Nat} : gW X (d + 2) 60 0 1 60 (gEn 60 [.ref 44]) [] (gK 45, gCI_59, gCL_45, gCR_97) (fun r σ => r = none ∧ σ = (gK 46, gCI_61, gCL_46, gCR_99)) := by
  show gW _ _ _ _ _ _ [some (.ref 44)] _ _ _
  refine w_aload rfl rfl ?_
  refine w_objI rfl (by decide) ?_
  refine w_aload rfl rfl ?_
  refine w_pushI rfl ?_
  refine w_putI rfl rfl ?_
  refine w_aload rfl rfl ?_
  refine w_pushI rfl ?_
  refine w_newAN (K2 := gK 46) (a := 45) (N := 60) (m2 := 0) (n2 := 0) rfl rfl rfl (by decide) (by decide) (by decide) (by decide) (by decide) (by decide) ?_
  refine w_putR rfl rfl ?_
  exact w_vret rfl rfl ⟨rfl, rfl⟩
theorem ct_28_60 {X : Nat × (Nat → Int32)} {d : Nat} : gW X (d + 2) 60 0 1 60 (gEn 60 [.ref 46]) [] (gK 47, gCI_62, gCL_47, gCR_101) (fun r σ => r = none ∧ σ = (gK 48, gCI_64, gCL_48, gCR_103)) := by
  show gW _ _ _ _ _ _ [some (.ref 46)] _ _ _
  refine w_aload rfl rfl ?_
  refine w_objI rfl (by decide) ?_
  refine w_aload rfl rfl ?_
  refine w_pushI rfl ?_
  refine w_putI rfl rfl ?_
  refine w_aload rfl rfl ?_
  refine w_pushI rfl ?_
  refine w_newAN (K2 := gK 48) (a := 47) (N := 60) (m2 := 0) (n2 := 0) rfl rfl rfl (by decide) (by decide) (by decide) (by decide) (by decide) (by decide) ?_
  refine w_putR rfl rfl ?_
  exact w_vret rfl rfl ⟨rfl, rfl⟩
theorem ct_30_60 {X : Nat × (Nat → Int32)} {d : Nat} : gW X (d + 2) 60 0 1 60 (gEn 60 [.ref 48]) [] (gK 49, gCI_65, gCL_49, gCR_105) (fun r σ => r = none ∧ σ = (gK 50, gCI_67, gCL_50, gCR_107)) := by
  show gW _ _ _ _ _ _ [some (.ref 48)] _ _ _
  refine w_aload rfl rfl ?_
  refine w_objI rfl (by decide) ?_
  refine w_aload rfl rfl ?_
  refine w_pushI rfl ?_
  refine w_putI rfl rfl ?_
  refine w_aload rfl rfl ?_
  refine w_pushI rfl ?_
  refine w_newAN (K2 := gK 50) (a := 49) (N := 60) (m2 := 0) (n2 := 0) rfl rfl rfl (by decide) (by decide) (by decide) (by decide) (by decide) (by decide) ?_
  refine w_putR rfl rfl ?_
  exact w_vret rfl rfl ⟨rfl, rfl⟩
theorem ct_X10 {X : Nat × (Nat → Int32)} {d : Nat} : gW X (d + 3) 100 0 49 1697 (gEn 100 [.ref 0]) [] (gK 1, gCI_1, gCL_1, gCR_1) (fun r σ => r = none ∧ σ = (gK 50, gCI_67, gCL_50, gCR_108)) := by
  show gW _ _ _ _ _ _ [some (.ref 0), none] _ _ _
  refine w_aload rfl rfl ?_
  refine w_objI rfl (by decide) ?_
  refine w_aload rfl rfl ?_
  refine w_newN (K2 := gK 2) (a := 1) (m2 := 48) (n2 := 1680) rfl rfl rfl (by decide) (by decide) (by decide) ?_
  refine w_dup rfl rfl ?_
  refine w_callN (As := []) (m1 := 6) (m2 := 725) (c2 := 42) (s2 := 955) rfl rfl (by decide) (by decide) (by decide) (by decide) ct_0_24 ?_
  refine w_putR rfl rfl ?_
  refine w_aload rfl rfl ?_
  refine w_newN (K2 := gK 9) (a := 8) (m2 := 41) (n2 := 952) rfl rfl rfl (by decide) (by decide) (by decide) ?_
  refine w_dup rfl rfl ?_
  refine w_aload rfl rfl ?_
  refine w_getR rfl rfl rfl ?_
  refine w_callN (As := [_]) (m1 := 1) (m2 := 54) (c2 := 40) (s2 := 898) rfl rfl (by decide) (by decide) (by decide) (by decide) ct_2_85 ?_
  refine w_putR rfl rfl ?_
  refine w_aload rfl rfl ?_
  refine w_newN (K2 := gK 11) (a := 10) (m2 := 39) (n2 := 884) rfl rfl rfl (by decide) (by decide) (by decide) ?_
  refine w_dup rfl rfl ?_
  refine w_aload rfl rfl ?_
  refine w_getR rfl rfl rfl ?_
  refine w_callN (As := [_]) (m1 := 7) (m2 := 166) (c2 := 32) (s2 := 718) rfl rfl (by decide) (by decide) (by decide) (by decide) ct_4_76 ?_
  refine w_putR rfl rfl ?_
  refine w_aload rfl rfl ?_
  refine w_newN (K2 := gK 19) (a := 18) (m2 := 31) (n2 := 713) rfl rfl rfl (by decide) (by decide) (by decide) ?_
  refine w_dup rfl rfl ?_
  refine w_aload rfl rfl ?_
  refine w_getR rfl rfl rfl ?_
  refine w_callN (As := [_]) (m1 := 2) (m2 := 12) (c2 := 29) (s2 := 701) rfl rfl (by decide) (by decide) (by decide) (by decide) ct_6_50 ?_
  refine w_putR rfl rfl ?_
  refine w_aload rfl rfl ?_
  refine w_newN (K2 := gK 22) (a := 21) (m2 := 28) (n2 := 696) rfl rfl rfl (by decide) (by decide) (by decide) ?_
  refine w_dup rfl rfl ?_
  refine w_aload rfl rfl ?_
  refine w_getR rfl rfl rfl ?_
  refine w_aload rfl rfl ?_
  refine w_getR rfl rfl rfl ?_
  refine w_callN (As := [_, _]) (m1 := 0) (m2 := 0) (c2 := 28) (s2 := 696) rfl rfl (by decide) (by decide) (by decide) (by decide) ct_8_44 ?_
  refine w_putR rfl rfl ?_
  refine w_aload rfl rfl ?_
  refine w_newN (K2 := gK 23) (a := 22) (m2 := 27) (n2 := 693) rfl rfl rfl (by decide) (by decide) (by decide) ?_
  refine w_dup rfl rfl ?_
  refine w_aload rfl rfl ?_
  refine w_getR rfl rfl rfl ?_
  refine w_callN (As := [_]) (m1 := 0) (m2 := 0) (c2 := 27) (s2 := 693) rfl rfl (by decide) (by decide) (by decide) (by decide) ct_10_55 ?_
  refine w_putR rfl rfl ?_
  refine w_aload rfl rfl ?_
  refine w_newN (K2 := gK 24) (a := 23) (m2 := 26) (n2 := 684) rfl rfl rfl (by decide) (by decide) (by decide) ?_
  refine w_dup rfl rfl ?_
  refine w_aload rfl rfl ?_
  refine w_getR rfl rfl rfl ?_
  refine w_callN (As := [_]) (m1 := 2) (m2 := 16) (c2 := 24) (s2 := 668) rfl rfl (by decide) (by decide) (by decide) (by decide) ct_12_18 ?_
  refine w_putR rfl rfl ?_
  refine w_aload rfl rfl ?_
  refine w_newN (K2 := gK 27) (a := 26) (m2 := 23) (n2 := 659) rfl rfl rfl (by decide) (by decide) (by decide) ?_
  refine w_dup rfl rfl ?_
  refine w_aload rfl rfl ?_
  refine w_getR rfl rfl rfl ?_
  refine w_callN (As := [_]) (m1 := 2) (m2 := 16) (c2 := 21) (s2 := 643) rfl rfl (by decide) (by decide) (by decide) (by decide) ct_14_18 ?_
  refine w_putR rfl rfl ?_
  refine w_aload rfl rfl ?_
  refine w_newN (K2 := gK 30) (a := 29) (m2 := 20) (n2 := 636) rfl rfl rfl (by decide) (by decide) (by decide) ?_
  refine w_dup rfl rfl ?_
  refine w_aload rfl rfl ?_
  refine w_getR rfl rfl rfl ?_
  refine w_callN (As := [_]) (m1 := 4) (m2 := 160) (c2 := 16) (s2 := 476) rfl rfl (by decide) (by decide) (by decide) (by decide) ct_16_13 ?_
  refine w_putR rfl rfl ?_
  refine w_aload rfl rfl ?_
  refine w_newN (K2 := gK 35) (a := 34) (m2 := 15) (n2 := 470) rfl rfl rfl (by decide) (by decide) (by decide) ?_
  refine w_dup rfl rfl ?_
  refine w_callN (As := []) (m1 := 2) (m2 := 74) (c2 := 13) (s2 := 396) rfl rfl (by decide) (by decide) (by decide) (by decide) ct_18_0 ?_
  refine w_putR rfl rfl ?_
  refine w_aload rfl rfl ?_
  refine w_pushI rfl ?_
  refine w_newRN (K2 := gK 38) (a := 37) (N := 6) (m2 := 12) (n2 := 390) rfl rfl rfl (by decide) (by decide) (by decide) (by decide) (by decide) (by decide) ?_
  refine w_putR rfl rfl ?_
  refine w_pushI rfl ?_
  refine w_istore rfl rfl ?_
  refine w_iload rfl rfl ?_
  refine w_pushI rfl ?_
  refine w_icmp_ge rfl (fun h => absurd h (by decide)) (fun _ => ?_)
  refine w_aload rfl rfl ?_
  refine w_getR rfl rfl rfl ?_
  refine w_iload rfl rfl ?_
  refine w_newN (K2 := gK 39) (a := 38) (m2 := 11) (n2 := 385) rfl rfl rfl (by decide) (by decide) (by decide) ?_
  refine w_dup rfl rfl ?_
  refine w_callN (As := []) (m1 := 1) (m2 := 60) (c2 := 10) (s2 := 325) rfl rfl (by decide) (by decide) (by decide) (by decide) ct_20_60 ?_
  refine w_aast rfl rfl (by unfold vp_in; decide) rfl ?_
  refine w_iinc rfl rfl rfl ?_
  refine w_goto rfl ?_
  refine w_iload rfl rfl ?_
  refine w_pushI rfl ?_
  refine w_icmp_ge rfl (fun h => absurd h (by decide)) (fun _ => ?_)
  refine w_aload rfl rfl ?_
  refine w_getR rfl rfl rfl ?_
  refine w_iload rfl rfl ?_
  refine w_newN (K2 := gK 41) (a := 40) (m2 := 9) (n2 := 320) rfl rfl rfl (by decide) (by decide) (by decide) ?_
  refine w_dup rfl rfl ?_
  refine w_callN (As := []) (m1 := 1) (m2 := 60) (c2 := 8) (s2 := 260) rfl rfl (by decide) (by decide) (by decide) (by decide) ct_22_60 ?_
  refine w_aast rfl rfl (by unfold vp_in; decide) rfl ?_
  refine w_iinc rfl rfl rfl ?_
  refine w_goto rfl ?_
  refine w_iload rfl rfl ?_
  refine w_pushI rfl ?_
  refine w_icmp_ge rfl (fun h => absurd h (by decide)) (fun _ => ?_)
  refine w_aload rfl rfl ?_
  refine w_getR rfl rfl rfl ?_
  refine w_iload rfl rfl ?_
  refine w_newN (K2 := gK 43) (a := 42) (m2 := 7) (n2 := 255) rfl rfl rfl (by decide) (by decide) (by decide) ?_
  refine w_dup rfl rfl ?_
  refine w_callN (As := []) (m1 := 1) (m2 := 60) (c2 := 6) (s2 := 195) rfl rfl (by decide) (by decide) (by decide) (by decide) ct_24_60 ?_
  refine w_aast rfl rfl (by unfold vp_in; decide) rfl ?_
  refine w_iinc rfl rfl rfl ?_
  refine w_goto rfl ?_
  refine w_iload rfl rfl ?_
  refine w_pushI rfl ?_
  refine w_icmp_ge rfl (fun h => absurd h (by decide)) (fun _ => ?_)
  refine w_aload rfl rfl ?_
  refine w_getR rfl rfl rfl ?_
  refine w_iload rfl rfl ?_
  refine w_newN (K2 := gK 45) (a := 44) (m2 := 5) (n2 := 190) rfl rfl rfl (by decide) (by decide) (by decide) ?_
  refine w_dup rfl rfl ?_
  refine w_callN (As := []) (m1 := 1) (m2 := 60) (c2 := 4) (s2 := 130) rfl rfl (by decide) (by decide) (by decide) (by decide) ct_26_60 ?_
  refine w_aast rfl rfl (by unfold vp_in; decide) rfl ?_
  refine w_iinc rfl rfl rfl ?_
  refine w_goto rfl ?_
  refine w_iload rfl rfl ?_
  refine w_pushI rfl ?_
  refine w_icmp_ge rfl (fun h => absurd h (by decide)) (fun _ => ?_)
  refine w_aload rfl rfl ?_
  refine w_getR rfl rfl rfl ?_
  refine w_iload rfl rfl ?_
  refine w_newN (K2 := gK 47) (a := 46) (m2 := 3) (n2 := 125) rfl rfl rfl (by decide) (by decide) (by decide) ?_
  refine w_dup rfl rfl ?_
  refine w_callN (As := []) (m1 := 1) (m2 := 60) (c2 := 2) (s2 := 65) rfl rfl (by decide) (by decide) (by decide) (by decide) ct_28_60 ?_
  refine w_aast rfl rfl (by unfold vp_in; decide) rfl ?_
  refine w_iinc rfl rfl rfl ?_
  refine w_goto rfl ?_
  refine w_iload rfl rfl ?_
  refine w_pushI rfl ?_
  refine w_icmp_ge rfl (fun h => absurd h (by decide)) (fun _ => ?_)
  refine w_aload rfl rfl ?_
  refine w_getR rfl rfl rfl ?_
  refine w_iload rfl rfl ?_
  refine w_newN (K2 := gK 49) (a := 48) (m2 := 1) (n2 := 60) rfl rfl rfl (by decide) (by decide) (by decide) ?_
  refine w_dup rfl rfl ?_
  refine w_callN (As := []) (m1 := 1) (m2 := 60) (c2 := 0) (s2 := 0) rfl rfl (by decide) (by decide) (by decide) (by decide) ct_30_60 ?_
  refine w_aast rfl rfl (by unfold vp_in; decide) rfl ?_
  refine w_iinc rfl rfl rfl ?_
  refine w_goto rfl ?_
  refine w_iload rfl rfl ?_
  refine w_pushI rfl ?_
  refine w_icmp_ge rfl (fun _ => ?_) (fun h => absurd (by decide) h)
  exact w_vret rfl rfl ⟨rfl, rfl⟩
theorem ct_X11 {X : Nat × (Nat → Int32)} {d : Nat} : gW X (d + 2) 147 0 36 1851 (gEn 147 [.ref 50]) [] (gK 51, gCI_68, gCL_51, gCR_109) (fun r σ => r = none ∧ σ = (gK 87, gCI_120, gCL_87, gCR_181)) := by
  show gW _ _ _ _ _ _ [some (.ref 50)] _ _ _
  refine w_aload rfl rfl ?_
  refine w_objI rfl (by decide) ?_
  refine w_aload rfl rfl ?_
  refine w_pushI rfl ?_
  refine w_newAN (K2 := gK 52) (a := 51) (N := 8) (m2 := 35) (n2 := 1843) rfl rfl rfl (by decide) (by decide) (by decide) (by decide) (by decide) (by decide) ?_
  refine w_putR rfl rfl ?_
  refine w_aload rfl rfl ?_
  refine w_pushI rfl ?_
  refine w_newAN (K2 := gK 53) (a := 52) (N := 8) (m2 := 34) (n2 := 1835) rfl rfl rfl (by decide) (by decide) (by decide) (by decide) (by decide) (by decide) ?_
  refine w_putR rfl rfl ?_
  refine w_aload rfl rfl ?_
  refine w_pushI rfl ?_
  refine w_newAN (K2 := gK 54) (a := 53) (N := 8) (m2 := 33) (n2 := 1827) rfl rfl rfl (by decide) (by decide) (by decide) (by decide) (by decide) (by decide) ?_
  refine w_putR rfl rfl ?_
  refine w_aload rfl rfl ?_
  refine w_pushI rfl ?_
  refine w_newAN (K2 := gK 55) (a := 54) (N := 8) (m2 := 32) (n2 := 1819) rfl rfl rfl (by decide) (by decide) (by decide) (by decide) (by decide) (by decide) ?_
  refine w_putR rfl rfl ?_
  refine w_aload rfl rfl ?_
  refine w_pushI rfl ?_
  refine w_newAN (K2 := gK 56) (a := 55) (N := 8) (m2 := 31) (n2 := 1811) rfl rfl rfl (by decide) (by decide) (by decide) (by decide) (by decide) (by decide) ?_
  refine w_putR rfl rfl ?_
  refine w_aload rfl rfl ?_
  refine w_pushI rfl ?_
  refine w_newAN (K2 := gK 57) (a := 56) (N := 9) (m2 := 30) (n2 := 1802) rfl rfl rfl (by decide) (by decide) (by decide) (by decide) (by decide) (by decide) ?_
  refine w_dup rfl rfl ?_
  refine w_pushI rfl ?_
  refine w_pushI rfl ?_
  refine w_iast rfl rfl (by unfold vp_in; decide) ?_
  refine w_dup rfl rfl ?_
  refine w_pushI rfl ?_
  refine w_pushI rfl ?_
  refine w_iast rfl rfl (by unfold vp_in; decide) ?_
  refine w_dup rfl rfl ?_
  refine w_pushI rfl ?_
  refine w_pushI rfl ?_
  refine w_iast rfl rfl (by unfold vp_in; decide) ?_
  refine w_dup rfl rfl ?_
  refine w_pushI rfl ?_
  refine w_pushI rfl ?_
  refine w_iast rfl rfl (by unfold vp_in; decide) ?_
  refine w_dup rfl rfl ?_
  refine w_pushI rfl ?_
  refine w_pushI rfl ?_
  refine w_iast rfl rfl (by unfold vp_in; decide) ?_
  refine w_dup rfl rfl ?_
  refine w_pushI rfl ?_
  refine w_pushI rfl ?_
  refine w_iast rfl rfl (by unfold vp_in; decide) ?_
  refine w_dup rfl rfl ?_
  refine w_pushI rfl ?_
  refine w_pushI rfl ?_
  refine w_iast rfl rfl (by unfold vp_in; decide) ?_
  refine w_dup rfl rfl ?_
  refine w_pushI rfl ?_
  refine w_pushI rfl ?_
  refine w_iast rfl rfl (by unfold vp_in; decide) ?_
  refine w_dup rfl rfl ?_
  refine w_pushI rfl ?_
  refine w_pushI rfl ?_
  refine w_iast rfl rfl (by unfold vp_in; decide) ?_
  refine w_putR rfl rfl ?_
  refine w_aload rfl rfl ?_
  refine w_pushI rfl ?_
  refine w_newAN (K2 := gK 58) (a := 57) (N := 40) (m2 := 29) (n2 := 1762) rfl rfl rfl (by decide) (by decide) (by decide) (by decide) (by decide) (by decide) ?_
  refine w_putR rfl rfl ?_
  refine w_aload rfl rfl ?_
  refine w_pushI rfl ?_
  refine w_newAN (K2 := gK 59) (a := 58) (N := 40) (m2 := 28) (n2 := 1722) rfl rfl rfl (by decide) (by decide) (by decide) (by decide) (by decide) (by decide) ?_
  refine w_putR rfl rfl ?_
  refine w_aload rfl rfl ?_
  refine w_pushI rfl ?_
  refine w_newAN (K2 := gK 60) (a := 59) (N := 40) (m2 := 27) (n2 := 1682) rfl rfl rfl (by decide) (by decide) (by decide) (by decide) (by decide) (by decide) ?_
  refine w_putR rfl rfl ?_
  refine w_aload rfl rfl ?_
  refine w_pushI rfl ?_
  refine w_newAN (K2 := gK 61) (a := 60) (N := 40) (m2 := 26) (n2 := 1642) rfl rfl rfl (by decide) (by decide) (by decide) (by decide) (by decide) (by decide) ?_
  refine w_putR rfl rfl ?_
  refine w_aload rfl rfl ?_
  refine w_pushI rfl ?_
  refine w_newAN (K2 := gK 62) (a := 61) (N := 120) (m2 := 25) (n2 := 1522) rfl rfl rfl (by decide) (by decide) (by decide) (by decide) (by decide) (by decide) ?_
  refine w_putR rfl rfl ?_
  refine w_aload rfl rfl ?_
  refine w_pushI rfl ?_
  refine w_newAN (K2 := gK 63) (a := 62) (N := 260) (m2 := 24) (n2 := 1262) rfl rfl rfl (by decide) (by decide) (by decide) (by decide) (by decide) (by decide) ?_
  refine w_putR rfl rfl ?_
  refine w_aload rfl rfl ?_
  refine w_pushI rfl ?_
  refine w_newAN (K2 := gK 64) (a := 63) (N := 260) (m2 := 23) (n2 := 1002) rfl rfl rfl (by decide) (by decide) (by decide) (by decide) (by decide) (by decide) ?_
  refine w_putR rfl rfl ?_
  refine w_aload rfl rfl ?_
  refine w_pushI rfl ?_
  refine w_newAN (K2 := gK 65) (a := 64) (N := 2) (m2 := 22) (n2 := 1000) rfl rfl rfl (by decide) (by decide) (by decide) (by decide) (by decide) (by decide) ?_
  refine w_putR rfl rfl ?_
  refine w_aload rfl rfl ?_
  refine w_pushI rfl ?_
  refine w_newAN (K2 := gK 66) (a := 65) (N := 122) (m2 := 21) (n2 := 878) rfl rfl rfl (by decide) (by decide) (by decide) (by decide) (by decide) (by decide) ?_
  refine w_putR rfl rfl ?_
  refine w_aload rfl rfl ?_
  refine w_pushI rfl ?_
  refine w_newAN (K2 := gK 67) (a := 66) (N := 122) (m2 := 20) (n2 := 756) rfl rfl rfl (by decide) (by decide) (by decide) (by decide) (by decide) (by decide) ?_
  refine w_putR rfl rfl ?_
  refine w_aload rfl rfl ?_
  refine w_pushI rfl ?_
  refine w_newAN (K2 := gK 68) (a := 67) (N := 6) (m2 := 19) (n2 := 750) rfl rfl rfl (by decide) (by decide) (by decide) (by decide) (by decide) (by decide) ?_
  refine w_putR rfl rfl ?_
  refine w_aload rfl rfl ?_
  refine w_pushI rfl ?_
  refine w_newAN (K2 := gK 69) (a := 68) (N := 130) (m2 := 18) (n2 := 620) rfl rfl rfl (by decide) (by decide) (by decide) (by decide) (by decide) (by decide) ?_
  refine w_putR rfl rfl ?_
  refine w_aload rfl rfl ?_
  refine w_pushI rfl ?_
  refine w_newAN (K2 := gK 70) (a := 69) (N := 8) (m2 := 17) (n2 := 612) rfl rfl rfl (by decide) (by decide) (by decide) (by decide) (by decide) (by decide) ?_
  refine w_putR rfl rfl ?_
  refine w_aload rfl rfl ?_
  refine w_pushI rfl ?_
  refine w_newAN (K2 := gK 71) (a := 70) (N := 8) (m2 := 16) (n2 := 604) rfl rfl rfl (by decide) (by decide) (by decide) (by decide) (by decide) (by decide) ?_
  refine w_putR rfl rfl ?_
  refine w_aload rfl rfl ?_
  refine w_pushI rfl ?_
  refine w_newAN (K2 := gK 72) (a := 71) (N := 8) (m2 := 15) (n2 := 596) rfl rfl rfl (by decide) (by decide) (by decide) (by decide) (by decide) (by decide) ?_
  refine w_putR rfl rfl ?_
  refine w_aload rfl rfl ?_
  refine w_pushI rfl ?_
  refine w_newAN (K2 := gK 73) (a := 72) (N := 8) (m2 := 14) (n2 := 588) rfl rfl rfl (by decide) (by decide) (by decide) (by decide) (by decide) (by decide) ?_
  refine w_putR rfl rfl ?_
  refine w_aload rfl rfl ?_
  refine w_pushI rfl ?_
  refine w_newAN (K2 := gK 74) (a := 73) (N := 21) (m2 := 13) (n2 := 567) rfl rfl rfl (by decide) (by decide) (by decide) (by decide) (by decide) (by decide) ?_
  refine w_putR rfl rfl ?_
  refine w_aload rfl rfl ?_
  refine w_pushI rfl ?_
  refine w_newAN (K2 := gK 75) (a := 74) (N := 21) (m2 := 12) (n2 := 546) rfl rfl rfl (by decide) (by decide) (by decide) (by decide) (by decide) (by decide) ?_
  refine w_putR rfl rfl ?_
  refine w_aload rfl rfl ?_
  refine w_pushI rfl ?_
  refine w_newAN (K2 := gK 76) (a := 75) (N := 8) (m2 := 11) (n2 := 538) rfl rfl rfl (by decide) (by decide) (by decide) (by decide) (by decide) (by decide) ?_
  refine w_putR rfl rfl ?_
  refine w_aload rfl rfl ?_
  refine w_pushI rfl ?_
  refine w_newAN (K2 := gK 77) (a := 76) (N := 8) (m2 := 10) (n2 := 530) rfl rfl rfl (by decide) (by decide) (by decide) (by decide) (by decide) (by decide) ?_
  refine w_putR rfl rfl ?_
  refine w_aload rfl rfl ?_
  refine w_pushI rfl ?_
  refine w_putI rfl rfl ?_
  refine w_aload rfl rfl ?_
  refine w_pushI rfl ?_
  refine w_newAN (K2 := gK 78) (a := 77) (N := 4) (m2 := 9) (n2 := 526) rfl rfl rfl (by decide) (by decide) (by decide) (by decide) (by decide) (by decide) ?_
  refine w_putR rfl rfl ?_
  refine w_aload rfl rfl ?_
  refine w_pushI rfl ?_
  refine w_newAN (K2 := gK 79) (a := 78) (N := 8) (m2 := 8) (n2 := 518) rfl rfl rfl (by decide) (by decide) (by decide) (by decide) (by decide) (by decide) ?_
  refine w_putR rfl rfl ?_
  refine w_aload rfl rfl ?_
  refine w_pushI rfl ?_
  refine w_newAN (K2 := gK 80) (a := 79) (N := 8) (m2 := 7) (n2 := 510) rfl rfl rfl (by decide) (by decide) (by decide) (by decide) (by decide) (by decide) ?_
  refine w_putR rfl rfl ?_
  refine w_aload rfl rfl ?_
  refine w_pushI rfl ?_
  refine w_newAN (K2 := gK 81) (a := 80) (N := 4) (m2 := 6) (n2 := 506) rfl rfl rfl (by decide) (by decide) (by decide) (by decide) (by decide) (by decide) ?_
  refine w_putR rfl rfl ?_
  refine w_aload rfl rfl ?_
  refine w_pushI rfl ?_
  refine w_newAN (K2 := gK 82) (a := 81) (N := 50) (m2 := 5) (n2 := 456) rfl rfl rfl (by decide) (by decide) (by decide) (by decide) (by decide) (by decide) ?_
  refine w_putR rfl rfl ?_
  refine w_aload rfl rfl ?_
  refine w_pushI rfl ?_
  refine w_newAN (K2 := gK 83) (a := 82) (N := 24) (m2 := 4) (n2 := 432) rfl rfl rfl (by decide) (by decide) (by decide) (by decide) (by decide) (by decide) ?_
  refine w_putR rfl rfl ?_
  refine w_aload rfl rfl ?_
  refine w_pushI rfl ?_
  refine w_newAN (K2 := gK 84) (a := 83) (N := 6) (m2 := 3) (n2 := 426) rfl rfl rfl (by decide) (by decide) (by decide) (by decide) (by decide) (by decide) ?_
  refine w_dup rfl rfl ?_
  refine w_pushI rfl ?_
  refine w_pushI rfl ?_
  refine w_iast rfl rfl (by unfold vp_in; decide) ?_
  refine w_dup rfl rfl ?_
  refine w_pushI rfl ?_
  refine w_pushI rfl ?_
  refine w_iast rfl rfl (by unfold vp_in; decide) ?_
  refine w_dup rfl rfl ?_
  refine w_pushI rfl ?_
  refine w_pushI rfl ?_
  refine w_iast rfl rfl (by unfold vp_in; decide) ?_
  refine w_dup rfl rfl ?_
  refine w_pushI rfl ?_
  refine w_pushI rfl ?_
  refine w_iast rfl rfl (by unfold vp_in; decide) ?_
  refine w_dup rfl rfl ?_
  refine w_pushI rfl ?_
  refine w_pushI rfl ?_
  refine w_iast rfl rfl (by unfold vp_in; decide) ?_
  refine w_dup rfl rfl ?_
  refine w_pushI rfl ?_
  refine w_pushI rfl ?_
  refine w_iast rfl rfl (by unfold vp_in; decide) ?_
  refine w_putR rfl rfl ?_
  refine w_aload rfl rfl ?_
  refine w_pushI rfl ?_
  refine w_newAN (K2 := gK 85) (a := 84) (N := 6) (m2 := 2) (n2 := 420) rfl rfl rfl (by decide) (by decide) (by decide) (by decide) (by decide) (by decide) ?_
  refine w_putR rfl rfl ?_
  refine w_aload rfl rfl ?_
  refine w_pushI rfl ?_
  refine w_newAN (K2 := gK 86) (a := 85) (N := 360) (m2 := 1) (n2 := 60) rfl rfl rfl (by decide) (by decide) (by decide) (by decide) (by decide) (by decide) ?_
  refine w_putR rfl rfl ?_
  refine w_aload rfl rfl ?_
  refine w_pushI rfl ?_
  refine w_newAN (K2 := gK 87) (a := 86) (N := 60) (m2 := 0) (n2 := 0) rfl rfl rfl (by decide) (by decide) (by decide) (by decide) (by decide) (by decide) ?_
  refine w_putR rfl rfl ?_
  exact w_vret rfl rfl ⟨rfl, rfl⟩
