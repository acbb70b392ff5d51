def gFlI : List (Nat × Nat × Int32) := [(0, 8, 0), (1, 1, 0), (8, 2, 0), (9, 45, 0), (9, 46, 180), (9, 47, 20), (9, 48, 60), (9, 49, 90), (9, 50, 3), (9, 51, 20), (9, 52, 60), (9, 53, 20), (23, 3, 0), (23, 4, (-1)), (23, 5, 0), (23, 6, 0), (23, 7, 0), (23, 8, 0), (29, 5, 0), (29, 6, 0), (34, 1, 0), (34, 3, 0), (38, 0, 0), (40, 0, 0), (42, 0, 0), (44, 0, 0), (46, 0, 0), (48, 0, 0), (50, 1, 0), (50, 8, 0), (50, 9, 0), (50, 15, 0), (50, 44, (-1)), (50, 45, 0), (50, 47, 0), (50, 54, 0), (50, 56, 0), (56, 0, 0), (56, 1, 180), (56, 2, 20), (56, 3, 60), (56, 4, 90), (56, 5, 3), (56, 6, 20), (56, 7, 60), (56, 8, 20), (77, 0, 0), (77, 1, 0), (77, 2, 0), (77, 3, 0), (83, 0, (-1)), (83, 1, (-1)), (83, 2, (-1)), (83, 3, (-1)), (83, 4, (-1)), (83, 5, (-1))]
theorem fmI_0_8 : ((0, 8, 0) : Nat × Nat × Int32) ∈ gFlI := List.mem_of_getElem? (i := 0) rfl
theorem fmI_1_1 : ((1, 1, 0) : Nat × Nat × Int32) ∈ gFlI := List.mem_of_getElem? (i := 1) rfl
theorem fmI_8_2 : ((8, 2, 0) : Nat × Nat × Int32) ∈ gFlI := List.mem_of_getElem? (i := 2) rfl
theorem fmI_9_45 : ((9, 45, 0) : Nat × Nat × Int32) ∈ gFlI := List.mem_of_getElem? (i := 3) rfl
theorem fmI_9_46 : ((9, 46, 180) : Nat × Nat × Int32) ∈ gFlI := List.mem_of_getElem? (i := 4) rfl
theorem fmI_9_47 : ((9, 47, 20) : Nat × Nat × Int32) ∈ gFlI := List.mem_of_getElem? (i := 5) rfl
theorem fmI_9_48 : ((9, 48, 60) : Nat × Nat × Int32) ∈ gFlI := List.mem_of_getElem? (i := 6) rfl
theorem fmI_9_49 : ((9, 49, 90) : Nat × Nat × Int32) ∈ gFlI := List.mem_of_getElem? (i := 7) rfl
theorem fmI_9_50 : ((9, 50, 3) : Nat × Nat × Int32) ∈ gFlI := List.mem_of_getElem? (i := 8) rfl
theorem fmI_9_51 : ((9, 51, 20) : Nat × Nat × Int32) ∈ gFlI := List.mem_of_getElem? (i := 9) rfl
theorem fmI_9_52 : ((9, 52, 60) : Nat × Nat × Int32) ∈ gFlI := List.mem_of_getElem? (i := 10) rfl
theorem fmI_9_53 : ((9, 53, 20) : Nat × Nat × Int32) ∈ gFlI := List.mem_of_getElem? (i := 11) rfl
theorem fmI_23_3 : ((23, 3, 0) : Nat × Nat × Int32) ∈ gFlI := List.mem_of_getElem? (i := 12) rfl
theorem fmI_23_4 : ((23, 4, (-1)) : Nat × Nat × Int32) ∈ gFlI := List.mem_of_getElem? (i := 13) rfl
theorem fmI_23_5 : ((23, 5, 0) : Nat × Nat × Int32) ∈ gFlI := List.mem_of_getElem? (i := 14) rfl
theorem fmI_23_6 : ((23, 6, 0) : Nat × Nat × Int32) ∈ gFlI := List.mem_of_getElem? (i := 15) rfl
theorem fmI_23_7 : ((23, 7, 0) : Nat × Nat × Int32) ∈ gFlI := List.mem_of_getElem? (i := 16) rfl
theorem fmI_23_8 : ((23, 8, 0) : Nat × Nat × Int32) ∈ gFlI := List.mem_of_getElem? (i := 17) rfl
theorem fmI_29_5 : ((29, 5, 0) : Nat × Nat × Int32) ∈ gFlI := List.mem_of_getElem? (i := 18) rfl
theorem fmI_29_6 : ((29, 6, 0) : Nat × Nat × Int32) ∈ gFlI := List.mem_of_getElem? (i := 19) rfl
theorem fmI_34_1 : ((34, 1, 0) : Nat × Nat × Int32) ∈ gFlI := List.mem_of_getElem? (i := 20) rfl
theorem fmI_34_3 : ((34, 3, 0) : Nat × Nat × Int32) ∈ gFlI := List.mem_of_getElem? (i := 21) rfl
theorem fmI_38_0 : ((38, 0, 0) : Nat × Nat × Int32) ∈ gFlI := List.mem_of_getElem? (i := 22) rfl
theorem fmI_40_0 : ((40, 0, 0) : Nat × Nat × Int32) ∈ gFlI := List.mem_of_getElem? (i := 23) rfl
theorem fmI_42_0 : ((42, 0, 0) : Nat × Nat × Int32) ∈ gFlI := List.mem_of_getElem? (i := 24) rfl
theorem fmI_44_0 : ((44, 0, 0) : Nat × Nat × Int32) ∈ gFlI := List.mem_of_getElem? (i := 25) rfl
theorem fmI_46_0 : ((46, 0, 0) : Nat × Nat × Int32) ∈ gFlI := List.mem_of_getElem? (i := 26) rfl
theorem fmI_48_0 : ((48, 0, 0) : Nat × Nat × Int32) ∈ gFlI := List.mem_of_getElem? (i := 27) rfl
theorem fmI_50_1 : ((50, 1, 0) : Nat × Nat × Int32) ∈ gFlI := List.mem_of_getElem? (i := 28) rfl
theorem fmI_50_8 : ((50, 8, 0) : Nat × Nat × Int32) ∈ gFlI := List.mem_of_getElem? (i := 29) rfl
theorem fmI_50_9 : ((50, 9, 0) : Nat × Nat × Int32) ∈ gFlI := List.mem_of_getElem? (i := 30) rfl
theorem fmI_50_15 : ((50, 15, 0) : Nat × Nat × Int32) ∈ gFlI := List.mem_of_getElem? (i := 31) rfl
theorem fmI_50_44 : ((50, 44, (-1)) : Nat × Nat × Int32) ∈ gFlI := List.mem_of_getElem? (i := 32) rfl
theorem fmI_50_45 : ((50, 45, 0) : Nat × Nat × Int32) ∈ gFlI := List.mem_of_getElem? (i := 33) rfl
theorem fmI_50_47 : ((50, 47, 0) : Nat × Nat × Int32) ∈ gFlI := List.mem_of_getElem? (i := 34) rfl
theorem fmI_50_54 : ((50, 54, 0) : Nat × Nat × Int32) ∈ gFlI := List.mem_of_getElem? (i := 35) rfl
theorem fmI_50_56 : ((50, 56, 0) : Nat × Nat × Int32) ∈ gFlI := List.mem_of_getElem? (i := 36) rfl
theorem fmI_56_0 : ((56, 0, 0) : Nat × Nat × Int32) ∈ gFlI := List.mem_of_getElem? (i := 37) rfl
theorem fmI_56_1 : ((56, 1, 180) : Nat × Nat × Int32) ∈ gFlI := List.mem_of_getElem? (i := 38) rfl
theorem fmI_56_2 : ((56, 2, 20) : Nat × Nat × Int32) ∈ gFlI := List.mem_of_getElem? (i := 39) rfl
theorem fmI_56_3 : ((56, 3, 60) : Nat × Nat × Int32) ∈ gFlI := List.mem_of_getElem? (i := 40) rfl
theorem fmI_56_4 : ((56, 4, 90) : Nat × Nat × Int32) ∈ gFlI := List.mem_of_getElem? (i := 41) rfl
theorem fmI_56_5 : ((56, 5, 3) : Nat × Nat × Int32) ∈ gFlI := List.mem_of_getElem? (i := 42) rfl
theorem fmI_56_6 : ((56, 6, 20) : Nat × Nat × Int32) ∈ gFlI := List.mem_of_getElem? (i := 43) rfl
theorem fmI_56_7 : ((56, 7, 60) : Nat × Nat × Int32) ∈ gFlI := List.mem_of_getElem? (i := 44) rfl
theorem fmI_56_8 : ((56, 8, 20) : Nat × Nat × Int32) ∈ gFlI := List.mem_of_getElem? (i := 45) rfl
theorem fmI_77_0 : ((77, 0, 0) : Nat × Nat × Int32) ∈ gFlI := List.mem_of_getElem? (i := 46) rfl
theorem fmI_77_1 : ((77, 1, 0) : Nat × Nat × Int32) ∈ gFlI := List.mem_of_getElem? (i := 47) rfl
theorem fmI_77_2 : ((77, 2, 0) : Nat × Nat × Int32) ∈ gFlI := List.mem_of_getElem? (i := 48) rfl
theorem fmI_77_3 : ((77, 3, 0) : Nat × Nat × Int32) ∈ gFlI := List.mem_of_getElem? (i := 49) rfl
theorem fmI_83_0 : ((83, 0, (-1)) : Nat × Nat × Int32) ∈ gFlI := List.mem_of_getElem? (i := 50) rfl
theorem fmI_83_1 : ((83, 1, (-1)) : Nat × Nat × Int32) ∈ gFlI := List.mem_of_getElem? (i := 51) rfl
theorem fmI_83_2 : ((83, 2, (-1)) : Nat × Nat × Int32) ∈ gFlI := List.mem_of_getElem? (i := 52) rfl
theorem fmI_83_3 : ((83, 3, (-1)) : Nat × Nat × Int32) ∈ gFlI := List.mem_of_getElem? (i := 53) rfl
theorem fmI_83_4 : ((83, 4, (-1)) : Nat × Nat × Int32) ∈ gFlI := List.mem_of_getElem? (i := 54) rfl
theorem fmI_83_5 : ((83, 5, (-1)) : Nat × Nat × Int32) ∈ gFlI := List.mem_of_getElem? (i := 55) rfl
def gFlL : List (Nat × Nat × Int64) := []
def gFlR : List (Nat × Nat × Nat) := [(0, 0, 1), (0, 1, 8), (0, 2, 10), (0, 3, 18), (0, 5, 22), (0, 6, 23), (0, 7, 26), (0, 9, 29), (0, 10, 34), (0, 11, 37), (1, 0, 2), (8, 1, 9), (18, 1, 19), (18, 2, 20), (22, 0, 8), (23, 0, 8), (23, 1, 24), (23, 2, 25), (26, 1, 27), (26, 2, 28), (29, 1, 30), (29, 2, 31), (29, 3, 32), (29, 4, 33), (34, 0, 35), (37, 0, 38), (37, 1, 40), (37, 2, 42), (37, 3, 44), (37, 4, 46), (37, 5, 48), (38, 4, 39), (40, 4, 41), (42, 4, 43), (44, 4, 45), (46, 4, 47), (48, 4, 49), (50, 2, 51), (50, 3, 52), (50, 4, 53), (50, 5, 54), (50, 6, 55), (50, 7, 56), (50, 10, 57), (50, 11, 58), (50, 12, 59), (50, 13, 60), (50, 14, 61), (50, 20, 62), (50, 21, 63), (50, 22, 64), (50, 23, 65), (50, 24, 66), (50, 39, 73), (50, 40, 74), (50, 42, 75), (50, 43, 76), (50, 46, 77), (50, 53, 80), (50, 55, 81), (50, 58, 83), (50, 59, 84), (50, 60, 85)]
theorem fmR_0_0 : ((0, 0, 1) : Nat × Nat × Nat) ∈ gFlR := List.mem_of_getElem? (i := 0) rfl
theorem fmR_0_1 : ((0, 1, 8) : Nat × Nat × Nat) ∈ gFlR := List.mem_of_getElem? (i := 1) rfl
theorem fmR_0_2 : ((0, 2, 10) : Nat × Nat × Nat) ∈ gFlR := List.mem_of_getElem? (i := 2) rfl
theorem fmR_0_3 : ((0, 3, 18) : Nat × Nat × Nat) ∈ gFlR := List.mem_of_getElem? (i := 3) rfl
theorem fmR_0_5 : ((0, 5, 22) : Nat × Nat × Nat) ∈ gFlR := List.mem_of_getElem? (i := 4) rfl
theorem fmR_0_6 : ((0, 6, 23) : Nat × Nat × Nat) ∈ gFlR := List.mem_of_getElem? (i := 5) rfl
theorem fmR_0_7 : ((0, 7, 26) : Nat × Nat × Nat) ∈ gFlR := List.mem_of_getElem? (i := 6) rfl
theorem fmR_0_9 : ((0, 9, 29) : Nat × Nat × Nat) ∈ gFlR := List.mem_of_getElem? (i := 7) rfl
theorem fmR_0_10 : ((0, 10, 34) : Nat × Nat × Nat) ∈ gFlR := List.mem_of_getElem? (i := 8) rfl
theorem fmR_0_11 : ((0, 11, 37) : Nat × Nat × Nat) ∈ gFlR := List.mem_of_getElem? (i := 9) rfl
theorem fmR_1_0 : ((1, 0, 2) : Nat × Nat × Nat) ∈ gFlR := List.mem_of_getElem? (i := 10) rfl
theorem fmR_8_1 : ((8, 1, 9) : Nat × Nat × Nat) ∈ gFlR := List.mem_of_getElem? (i := 11) rfl
theorem fmR_18_1 : ((18, 1, 19) : Nat × Nat × Nat) ∈ gFlR := List.mem_of_getElem? (i := 12) rfl
theorem fmR_18_2 : ((18, 2, 20) : Nat × Nat × Nat) ∈ gFlR := List.mem_of_getElem? (i := 13) rfl
theorem fmR_22_0 : ((22, 0, 8) : Nat × Nat × Nat) ∈ gFlR := List.mem_of_getElem? (i := 14) rfl
theorem fmR_23_0 : ((23, 0, 8) : Nat × Nat × Nat) ∈ gFlR := List.mem_of_getElem? (i := 15) rfl
theorem fmR_23_1 : ((23, 1, 24) : Nat × Nat × Nat) ∈ gFlR := List.mem_of_getElem? (i := 16) rfl
theorem fmR_23_2 : ((23, 2, 25) : Nat × Nat × Nat) ∈ gFlR := List.mem_of_getElem? (i := 17) rfl
theorem fmR_26_1 : ((26, 1, 27) : Nat × Nat × Nat) ∈ gFlR := List.mem_of_getElem? (i := 18) rfl
theorem fmR_26_2 : ((26, 2, 28) : Nat × Nat × Nat) ∈ gFlR := List.mem_of_getElem? (i := 19) rfl
theorem fmR_29_1 : ((29, 1, 30) : Nat × Nat × Nat) ∈ gFlR := List.mem_of_getElem? (i := 20) rfl
theorem fmR_29_2 : ((29, 2, 31) : Nat × Nat × Nat) ∈ gFlR := List.mem_of_getElem? (i := 21) rfl
theorem fmR_29_3 : ((29, 3, 32) : Nat × Nat × Nat) ∈ gFlR := List.mem_of_getElem? (i := 22) rfl
theorem fmR_29_4 : ((29, 4, 33) : Nat × Nat × Nat) ∈ gFlR := List.mem_of_getElem? (i := 23) rfl
theorem fmR_34_0 : ((34, 0, 35) : Nat × Nat × Nat) ∈ gFlR := List.mem_of_getElem? (i := 24) rfl
theorem fmR_37_0 : ((37, 0, 38) : Nat × Nat × Nat) ∈ gFlR := List.mem_of_getElem? (i := 25) rfl
theorem fmR_37_1 : ((37, 1, 40) : Nat × Nat × Nat) ∈ gFlR := List.mem_of_getElem? (i := 26) rfl
theorem fmR_37_2 : ((37, 2, 42) : Nat × Nat × Nat) ∈ gFlR := List.mem_of_getElem? (i := 27) rfl
theorem fmR_37_3 : ((37, 3, 44) : Nat × Nat × Nat) ∈ gFlR := List.mem_of_getElem? (i := 28) rfl
theorem fmR_37_4 : ((37, 4, 46) : Nat × Nat × Nat) ∈ gFlR := List.mem_of_getElem? (i := 29) rfl
theorem fmR_37_5 : ((37, 5, 48) : Nat × Nat × Nat) ∈ gFlR := List.mem_of_getElem? (i := 30) rfl
theorem fmR_38_4 : ((38, 4, 39) : Nat × Nat × Nat) ∈ gFlR := List.mem_of_getElem? (i := 31) rfl
theorem fmR_40_4 : ((40, 4, 41) : Nat × Nat × Nat) ∈ gFlR := List.mem_of_getElem? (i := 32) rfl
theorem fmR_42_4 : ((42, 4, 43) : Nat × Nat × Nat) ∈ gFlR := List.mem_of_getElem? (i := 33) rfl
theorem fmR_44_4 : ((44, 4, 45) : Nat × Nat × Nat) ∈ gFlR := List.mem_of_getElem? (i := 34) rfl
theorem fmR_46_4 : ((46, 4, 47) : Nat × Nat × Nat) ∈ gFlR := List.mem_of_getElem? (i := 35) rfl
theorem fmR_48_4 : ((48, 4, 49) : Nat × Nat × Nat) ∈ gFlR := List.mem_of_getElem? (i := 36) rfl
theorem fmR_50_2 : ((50, 2, 51) : Nat × Nat × Nat) ∈ gFlR := List.mem_of_getElem? (i := 37) rfl
theorem fmR_50_3 : ((50, 3, 52) : Nat × Nat × Nat) ∈ gFlR := List.mem_of_getElem? (i := 38) rfl
theorem fmR_50_4 : ((50, 4, 53) : Nat × Nat × Nat) ∈ gFlR := List.mem_of_getElem? (i := 39) rfl
theorem fmR_50_5 : ((50, 5, 54) : Nat × Nat × Nat) ∈ gFlR := List.mem_of_getElem? (i := 40) rfl
theorem fmR_50_6 : ((50, 6, 55) : Nat × Nat × Nat) ∈ gFlR := List.mem_of_getElem? (i := 41) rfl
theorem fmR_50_7 : ((50, 7, 56) : Nat × Nat × Nat) ∈ gFlR := List.mem_of_getElem? (i := 42) rfl
theorem fmR_50_10 : ((50, 10, 57) : Nat × Nat × Nat) ∈ gFlR := List.mem_of_getElem? (i := 43) rfl
theorem fmR_50_11 : ((50, 11, 58) : Nat × Nat × Nat) ∈ gFlR := List.mem_of_getElem? (i := 44) rfl
theorem fmR_50_12 : ((50, 12, 59) : Nat × Nat × Nat) ∈ gFlR := List.mem_of_getElem? (i := 45) rfl
theorem fmR_50_13 : ((50, 13, 60) : Nat × Nat × Nat) ∈ gFlR := List.mem_of_getElem? (i := 46) rfl
theorem fmR_50_14 : ((50, 14, 61) : Nat × Nat × Nat) ∈ gFlR := List.mem_of_getElem? (i := 47) rfl
theorem fmR_50_20 : ((50, 20, 62) : Nat × Nat × Nat) ∈ gFlR := List.mem_of_getElem? (i := 48) rfl
theorem fmR_50_21 : ((50, 21, 63) : Nat × Nat × Nat) ∈ gFlR := List.mem_of_getElem? (i := 49) rfl
theorem fmR_50_22 : ((50, 22, 64) : Nat × Nat × Nat) ∈ gFlR := List.mem_of_getElem? (i := 50) rfl
theorem fmR_50_23 : ((50, 23, 65) : Nat × Nat × Nat) ∈ gFlR := List.mem_of_getElem? (i := 51) rfl
theorem fmR_50_24 : ((50, 24, 66) : Nat × Nat × Nat) ∈ gFlR := List.mem_of_getElem? (i := 52) rfl
theorem fmR_50_39 : ((50, 39, 73) : Nat × Nat × Nat) ∈ gFlR := List.mem_of_getElem? (i := 53) rfl
theorem fmR_50_40 : ((50, 40, 74) : Nat × Nat × Nat) ∈ gFlR := List.mem_of_getElem? (i := 54) rfl
theorem fmR_50_42 : ((50, 42, 75) : Nat × Nat × Nat) ∈ gFlR := List.mem_of_getElem? (i := 55) rfl
theorem fmR_50_43 : ((50, 43, 76) : Nat × Nat × Nat) ∈ gFlR := List.mem_of_getElem? (i := 56) rfl
theorem fmR_50_46 : ((50, 46, 77) : Nat × Nat × Nat) ∈ gFlR := List.mem_of_getElem? (i := 57) rfl
theorem fmR_50_53 : ((50, 53, 80) : Nat × Nat × Nat) ∈ gFlR := List.mem_of_getElem? (i := 58) rfl
theorem fmR_50_55 : ((50, 55, 81) : Nat × Nat × Nat) ∈ gFlR := List.mem_of_getElem? (i := 59) rfl
theorem fmR_50_58 : ((50, 58, 83) : Nat × Nat × Nat) ∈ gFlR := List.mem_of_getElem? (i := 60) rfl
theorem fmR_50_59 : ((50, 59, 84) : Nat × Nat × Nat) ∈ gFlR := List.mem_of_getElem? (i := 61) rfl
theorem fmR_50_60 : ((50, 60, 85) : Nat × Nat × Nat) ∈ gFlR := List.mem_of_getElem? (i := 62) rfl
theorem ite_eq_of {α : Type} {c : Prop} [Decidable c] {v x y : α} (h1 : c → v = x) (h2 : ¬ c → v = y) : v = if c then x else y := by
  by_cases h : c
  · rw [if_pos h]; exact h1 h
  · rw [if_neg h]; exact h2 h
def gFr (σ : gM) (I : Nat → Nat → Int32) (L : Nat → Nat → Int64) (R : Nat → Nat → Option Nat) : Prop := σ.1 = gK 87 ∧ (∀ x, 50 ≤ x → σ.2.1 x = I x) ∧ (∀ x, 50 ≤ x → σ.2.2.1 x = L x) ∧ (∀ x, 50 ≤ x → σ.2.2.2 x = R x)
def f1_place (a : Int32) (b : Int32) : Int32 := if (0 ≤ a.toInt ∧ a.toInt ≤ 9999) ∧ (0 ≤ b.toInt ∧ b.toInt ≤ 99) then (0) else ((-1))
def f1_places (a : Int32) (b : Int32) (c : Int32) : Int32 := if (0 ≤ a.toInt ∧ a.toInt ≤ 5) ∧ (1 ≤ c.toInt ∧ c.toInt ≤ 8) then (0) else ((-1))
def f1_mend (a : Int32) (b : Int32) (c : Int32) : Int32 := if a.toInt = 0 then (if b.toInt = 5 then (if (0 ≤ c.toInt ∧ c.toInt ≤ 99) then (0) else ((-1))) else (if b.toInt = 6 then (if (0 ≤ c.toInt ∧ c.toInt ≤ 999) then (180) else ((-1))) else (if b.toInt = 7 then (if (1 ≤ c.toInt ∧ c.toInt ≤ 99) then (20) else ((-1))) else (if b.toInt = 8 then (if (0 ≤ c.toInt ∧ c.toInt ≤ 9999) then (60) else ((-1))) else (if b.toInt = 9 then (if (0 ≤ c.toInt ∧ c.toInt ≤ 9999) then (90) else ((-1))) else (if b.toInt = 10 then (if (0 ≤ c.toInt ∧ c.toInt ≤ 12) then (3) else ((-1))) else (if b.toInt = 11 then (if (0 ≤ c.toInt ∧ c.toInt ≤ 9999) then (20) else ((-1))) else (if b.toInt = 12 then (if (1 ≤ c.toInt ∧ c.toInt ≤ 99) then (60) else ((-1))) else (if b.toInt = 13 then (if (1 ≤ c.toInt ∧ c.toInt ≤ 99) then (20) else ((-1))) else ((-1))))))))))) else ((-1))
def f1_of (a : Int32) (b : Int32) : Int32 := if a.toInt = 0 then (if b.toInt = 5 then (0) else (if b.toInt = 6 then (180) else (if b.toInt = 7 then (20) else (if b.toInt = 8 then (60) else (if b.toInt = 9 then (90) else (if b.toInt = 10 then (3) else (if b.toInt = 11 then (20) else (if b.toInt = 12 then (60) else (if b.toInt = 13 then (20) else ((-1))))))))))) else ((-1))
def f1_feed (a : Int32) : Int32 := if (0 ≤ a.toInt ∧ a.toInt ≤ 255) then (1) else ((-1))
def f1_law  : Int32 := (-100)
def f1_hears (a : Int32) (b : Int32) : Int32 := (-1)
def f1_round (a : Int32) (b : Int32) : Int32 := if (0 ≤ a.toInt ∧ a.toInt ≤ 5) ∧ ((-3) ≤ b.toInt ∧ b.toInt ≤ (-1)) then ((-11)) else ((-1))
def f1_ifNot (a : Int32) (b : Int32) : Int32 := if (0 ≤ a.toInt ∧ a.toInt ≤ 5) ∧ (0 ≤ b.toInt ∧ b.toInt ≤ 1) then ((-11)) else ((-1))
def f1_by (a : Int32) (b : Int32) : Int32 := if (0 ≤ a.toInt ∧ a.toInt ≤ 5) ∧ (0 ≤ b.toInt ∧ b.toInt ≤ 1000000) then ((-11)) else ((-1))
def f1_next (a : Int32) (b : Int32) (c : Int32) : Int32 := if (0 ≤ a.toInt ∧ a.toInt ≤ 5) ∧ (1 ≤ b.toInt ∧ b.toInt ≤ 99) ∧ (0 ≤ c.toInt ∧ c.toInt ≤ 1) then ((-11)) else ((-1))
def f1_stay (a : Int32) (b : Int32) : Int32 := if (0 ≤ a.toInt ∧ a.toInt ≤ 5) ∧ (0 ≤ b.toInt ∧ b.toInt ≤ 999999) then ((-11)) else ((-1))
def f1_best (a : Int32) (b : Int32) (c : Int32) : Int32 := if a.toInt = 0 ∧ (1 ≤ b.toInt ∧ b.toInt ≤ 99) ∧ (-1) ≤ c.toInt then (if c.toInt = (-1) then (0) else ((-2))) else ((-1))
def f1_giveUp (a : Int32) (b : Int32) (c : Int32) : Int32 := if (0 ≤ a.toInt ∧ a.toInt ≤ 5) ∧ (0 ≤ b.toInt ∧ b.toInt ≤ 999999) ∧ (0 ≤ c.toInt ∧ c.toInt ≤ 1) then ((-11)) else ((-1))
def f1_seen (a : Int32) (b : Int32) : Int32 := if (0 ≤ a.toInt ∧ a.toInt ≤ 9999) ∧ (0 ≤ b.toInt ∧ b.toInt ≤ 99) then (0) else ((-1))
def f1_dead (a : Int32) : Int32 := if (0 ≤ a.toInt ∧ a.toInt ≤ 5) then ((-11)) else ((-1))
def f1_buy (a : Int32) (b : Int32) : Int32 := if (0 ≤ a.toInt ∧ a.toInt ≤ 20) ∧ (0 ≤ b.toInt ∧ b.toInt ≤ 1) then (if b.toInt = 0 then (if a.toInt ≤ 10 then (if a.toInt ≤ 5 then (if a.toInt ≤ 2 then (if a.toInt ≤ 1 then (if a.toInt ≤ 0 then (0) else (20000)) else (40000)) else (if a.toInt ≤ 4 then (if a.toInt ≤ 3 then (60000) else (80000)) else (98984))) else (if a.toInt ≤ 8 then (if a.toInt ≤ 7 then (if a.toInt ≤ 6 then (113984) else (128984)) else (143984)) else (if a.toInt ≤ 9 then (158984) else (173984)))) else (if a.toInt ≤ 15 then (if a.toInt ≤ 13 then (if a.toInt ≤ 12 then (if a.toInt ≤ 11 then (188984) else (203984)) else (218984)) else (if a.toInt ≤ 14 then (233984) else (248984))) else (if a.toInt ≤ 18 then (if a.toInt ≤ 17 then (if a.toInt ≤ 16 then (263984) else (278984)) else (293984)) else (if a.toInt ≤ 19 then (308984) else (323984))))) else (if a.toInt ≤ 10 then (if a.toInt ≤ 5 then (if a.toInt ≤ 2 then (if a.toInt ≤ 1 then (if a.toInt ≤ 0 then (0) else (0)) else (0)) else (if a.toInt ≤ 4 then (if a.toInt ≤ 3 then (0) else (0)) else (1))) else (if a.toInt ≤ 8 then (if a.toInt ≤ 7 then (if a.toInt ≤ 6 then (1) else (1)) else (1)) else (if a.toInt ≤ 9 then (1) else (1)))) else (if a.toInt ≤ 15 then (if a.toInt ≤ 13 then (if a.toInt ≤ 12 then (if a.toInt ≤ 11 then (1) else (1)) else (1)) else (if a.toInt ≤ 14 then (1) else (1))) else (if a.toInt ≤ 18 then (if a.toInt ≤ 17 then (if a.toInt ≤ 16 then (1) else (1)) else (1)) else (if a.toInt ≤ 19 then (1) else (1)))))) else ((-1))
def f1_strangers (a : Int32) (b : Int32) : Int32 := if (0 ≤ a.toInt ∧ a.toInt ≤ 5) ∧ (0 ≤ b.toInt ∧ b.toInt ≤ 2) then ((-11)) else ((-1))
def f1_grass (a : Int32) (b : Int32) : Int32 := if (0 ≤ a.toInt ∧ a.toInt ≤ 9999) ∧ (0 ≤ b.toInt ∧ b.toInt ≤ 1) then ((-2)) else ((-1))
def f1_drawn (a : Int32) (b : Int32) (c : Int32) (d : Int32) : Int32 := if (0 ≤ a.toInt ∧ a.toInt ≤ 5) ∧ (1 ≤ c.toInt ∧ c.toInt ≤ 30) ∧ (0 ≤ d.toInt ∧ d.toInt ≤ 1) then ((-11)) else ((-1))
def f1_go (a : Int32) : Int32 := (-1)
def f1_listen (a : Int32) : Int32 := if (1 ≤ a.toInt ∧ a.toInt ≤ 99) then ((-5)) else ((-1))
def f1_find (a : Int32) : Int32 := (-1)
def f1_again  : Int32 := 0
def f1_led (a : Int32) : Int32 := if (0 ≤ a.toInt ∧ a.toInt ≤ 4) then (0) else (if a.toInt = 5 then ((-2)) else ((-1)))
def f1_image  : Int32 := 0
def f1_back  : Int32 := (-5)
def f1_undo  : Int32 := (-5)
def f1_redo  : Int32 := (-5)
def f1_body (a : Int32) : Int32 := if (0 ≤ a.toInt ∧ a.toInt ≤ 7) then (0) else ((-1))
def f1_act (a : Int32) (b : Int32) (c : Int32) : Int32 := 0
def f1_trace (a : Int32) : Int32 := (-1)
def f1_keep (a : Int32) (b : Int32) : Int32 := if (0 ≤ a.toInt ∧ a.toInt ≤ 5) ∧ b.toInt = (-1) then (1) else ((-1))
def f1_row (a : Int32) (b : Int32) (c : Int32) : Int32 := if (0 ≤ a.toInt ∧ a.toInt ≤ 5) ∧ (0 ≤ b.toInt ∧ b.toInt ≤ 4) ∧ c.toInt ≤ 60 then (if c.toInt ≤ (-1) then ((-14)) else (1)) else ((-1))
def f1_put (a : Int32) (b : Int32) (c : Int64) : Int32 := if (0 ≤ a.toInt ∧ a.toInt ≤ 5) then ((-11)) else ((-1))
def f1_element (a : Int32) (b : Int32) : Int64 := (-9223372036854775808)
def f1_shift (a : Int32) (b : Int32) (c : Int32) (d : Int32) (e : Int32) : Int32 := if (0 ≤ a.toInt ∧ a.toInt ≤ 5) ∧ (0 ≤ c.toInt ∧ c.toInt ≤ 5) then ((-11)) else ((-1))
def f1_taken (a : Int32) (b : Int32) : Int32 := if (0 ≤ a.toInt ∧ a.toInt ≤ 5) ∧ (0 ≤ b.toInt ∧ b.toInt ≤ 7) then ((-11)) else ((-1))
def f1_count (a : Int32) : Int32 := if (0 ≤ a.toInt ∧ a.toInt ≤ 4) then (0) else ((-1))
