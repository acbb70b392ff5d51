theorem gN_0_1 (k : Nat) (h1 : 0 ≤ k) (h2 : k ≤ 1) : ∀ pc e, gF k pc = some e → gChk k pc e = true := by
  rcases Nat.lt_or_ge 0 k with q | q
  · exact (fun pc e he => by obtain rfl : k = 1 := by omega
                    exact gO_1 pc e he)
  · exact (fun pc e he => by obtain rfl : k = 0 := by omega
                    exact gO_0 pc e he)
theorem gN_0_2 (k : Nat) (h1 : 0 ≤ k) (h2 : k ≤ 2) : ∀ pc e, gF k pc = some e → gChk k pc e = true := by
  rcases Nat.lt_or_ge 1 k with q | q
  · exact (fun pc e he => by obtain rfl : k = 2 := by omega
                    exact gO_2 pc e he)
  · exact (gN_0_1 k (by omega) (by omega))
theorem gN_3_4 (k : Nat) (h1 : 3 ≤ k) (h2 : k ≤ 4) : ∀ pc e, gF k pc = some e → gChk k pc e = true := by
  rcases Nat.lt_or_ge 3 k with q | q
  · exact (fun pc e he => by obtain rfl : k = 4 := by omega
                    exact gO_4 pc e he)
  · exact (fun pc e he => by obtain rfl : k = 3 := by omega
                    exact gO_3 pc e he)
theorem gN_0_4 (k : Nat) (h1 : 0 ≤ k) (h2 : k ≤ 4) : ∀ pc e, gF k pc = some e → gChk k pc e = true := by
  rcases Nat.lt_or_ge 2 k with q | q
  · exact (gN_3_4 k (by omega) (by omega))
  · exact (gN_0_2 k (by omega) (by omega))
theorem gN_5_6 (k : Nat) (h1 : 5 ≤ k) (h2 : k ≤ 6) : ∀ pc e, gF k pc = some e → gChk k pc e = true := by
  rcases Nat.lt_or_ge 5 k with q | q
  · exact (fun pc e he => by obtain rfl : k = 6 := by omega
                    exact gO_6 pc e he)
  · exact (fun pc e he => by obtain rfl : k = 5 := by omega
                    exact gO_5 pc e he)
theorem gN_7_8 (k : Nat) (h1 : 7 ≤ k) (h2 : k ≤ 8) : ∀ pc e, gF k pc = some e → gChk k pc e = true := by
  rcases Nat.lt_or_ge 7 k with q | q
  · exact (fun pc e he => by obtain rfl : k = 8 := by omega
                    exact gO_8 pc e he)
  · exact (fun pc e he => by obtain rfl : k = 7 := by omega
                    exact gO_7 pc e he)
theorem gN_5_8 (k : Nat) (h1 : 5 ≤ k) (h2 : k ≤ 8) : ∀ pc e, gF k pc = some e → gChk k pc e = true := by
  rcases Nat.lt_or_ge 6 k with q | q
  · exact (gN_7_8 k (by omega) (by omega))
  · exact (gN_5_6 k (by omega) (by omega))
theorem gN_0_8 (k : Nat) (h1 : 0 ≤ k) (h2 : k ≤ 8) : ∀ pc e, gF k pc = some e → gChk k pc e = true := by
  rcases Nat.lt_or_ge 4 k with q | q
  · exact (gN_5_8 k (by omega) (by omega))
  · exact (gN_0_4 k (by omega) (by omega))
theorem gN_9_10 (k : Nat) (h1 : 9 ≤ k) (h2 : k ≤ 10) : ∀ pc e, gF k pc = some e → gChk k pc e = true := by
  rcases Nat.lt_or_ge 9 k with q | q
  · exact (fun pc e he => by obtain rfl : k = 10 := by omega
                    exact gO_10 pc e he)
  · exact (fun pc e he => by obtain rfl : k = 9 := by omega
                    exact gO_9 pc e he)
theorem gN_11_12 (k : Nat) (h1 : 11 ≤ k) (h2 : k ≤ 12) : ∀ pc e, gF k pc = some e → gChk k pc e = true := by
  rcases Nat.lt_or_ge 11 k with q | q
  · exact (fun pc e he => by obtain rfl : k = 12 := by omega
                    exact gO_12 pc e he)
  · exact (fun pc e he => by obtain rfl : k = 11 := by omega
                    exact gO_11 pc e he)
theorem gN_9_12 (k : Nat) (h1 : 9 ≤ k) (h2 : k ≤ 12) : ∀ pc e, gF k pc = some e → gChk k pc e = true := by
  rcases Nat.lt_or_ge 10 k with q | q
  · exact (gN_11_12 k (by omega) (by omega))
  · exact (gN_9_10 k (by omega) (by omega))
theorem gN_13_14 (k : Nat) (h1 : 13 ≤ k) (h2 : k ≤ 14) : ∀ pc e, gF k pc = some e → gChk k pc e = true := by
  rcases Nat.lt_or_ge 13 k with q | q
  · exact (fun pc e he => by obtain rfl : k = 14 := by omega
                    exact gO_14 pc e he)
  · exact (fun pc e he => by obtain rfl : k = 13 := by omega
                    exact gO_13 pc e he)
theorem gN_15_16 (k : Nat) (h1 : 15 ≤ k) (h2 : k ≤ 16) : ∀ pc e, gF k pc = some e → gChk k pc e = true := by
  rcases Nat.lt_or_ge 15 k with q | q
  · exact (fun pc e he => by obtain rfl : k = 16 := by omega
                    exact gO_16 pc e he)
  · exact (fun pc e he => by obtain rfl : k = 15 := by omega
                    exact gO_15 pc e he)
theorem gN_13_16 (k : Nat) (h1 : 13 ≤ k) (h2 : k ≤ 16) : ∀ pc e, gF k pc = some e → gChk k pc e = true := by
  rcases Nat.lt_or_ge 14 k with q | q
  · exact (gN_15_16 k (by omega) (by omega))
  · exact (gN_13_14 k (by omega) (by omega))
theorem gN_9_16 (k : Nat) (h1 : 9 ≤ k) (h2 : k ≤ 16) : ∀ pc e, gF k pc = some e → gChk k pc e = true := by
  rcases Nat.lt_or_ge 12 k with q | q
  · exact (gN_13_16 k (by omega) (by omega))
  · exact (gN_9_12 k (by omega) (by omega))
theorem gN_0_16 (k : Nat) (h1 : 0 ≤ k) (h2 : k ≤ 16) : ∀ pc e, gF k pc = some e → gChk k pc e = true := by
  rcases Nat.lt_or_ge 8 k with q | q
  · exact (gN_9_16 k (by omega) (by omega))
  · exact (gN_0_8 k (by omega) (by omega))
theorem gN_17_18 (k : Nat) (h1 : 17 ≤ k) (h2 : k ≤ 18) : ∀ pc e, gF k pc = some e → gChk k pc e = true := by
  rcases Nat.lt_or_ge 17 k with q | q
  · exact (fun pc e he => by obtain rfl : k = 18 := by omega
                    exact gO_18 pc e he)
  · exact (fun pc e he => by obtain rfl : k = 17 := by omega
                    exact gO_17 pc e he)
theorem gN_19_20 (k : Nat) (h1 : 19 ≤ k) (h2 : k ≤ 20) : ∀ pc e, gF k pc = some e → gChk k pc e = true := by
  rcases Nat.lt_or_ge 19 k with q | q
  · exact (fun pc e he => by obtain rfl : k = 20 := by omega
                    exact gO_20 pc e he)
  · exact (fun pc e he => by obtain rfl : k = 19 := by omega
                    exact gO_19 pc e he)
theorem gN_17_20 (k : Nat) (h1 : 17 ≤ k) (h2 : k ≤ 20) : ∀ pc e, gF k pc = some e → gChk k pc e = true := by
  rcases Nat.lt_or_ge 18 k with q | q
  · exact (gN_19_20 k (by omega) (by omega))
  · exact (gN_17_18 k (by omega) (by omega))
theorem gN_21_22 (k : Nat) (h1 : 21 ≤ k) (h2 : k ≤ 22) : ∀ pc e, gF k pc = some e → gChk k pc e = true := by
  rcases Nat.lt_or_ge 21 k with q | q
  · exact (fun pc e he => by obtain rfl : k = 22 := by omega
                    exact gO_22 pc e he)
  · exact (fun pc e he => by obtain rfl : k = 21 := by omega
                    exact gO_21 pc e he)
theorem gN_23_24 (k : Nat) (h1 : 23 ≤ k) (h2 : k ≤ 24) : ∀ pc e, gF k pc = some e → gChk k pc e = true := by
  rcases Nat.lt_or_ge 23 k with q | q
  · exact (fun pc e he => by obtain rfl : k = 24 := by omega
                    exact gO_24 pc e he)
  · exact (fun pc e he => by obtain rfl : k = 23 := by omega
                    exact gO_23 pc e he)
theorem gN_21_24 (k : Nat) (h1 : 21 ≤ k) (h2 : k ≤ 24) : ∀ pc e, gF k pc = some e → gChk k pc e = true := by
  rcases Nat.lt_or_ge 22 k with q | q
  · exact (gN_23_24 k (by omega) (by omega))
  · exact (gN_21_22 k (by omega) (by omega))
theorem gN_17_24 (k : Nat) (h1 : 17 ≤ k) (h2 : k ≤ 24) : ∀ pc e, gF k pc = some e → gChk k pc e = true := by
  rcases Nat.lt_or_ge 20 k with q | q
  · exact (gN_21_24 k (by omega) (by omega))
  · exact (gN_17_20 k (by omega) (by omega))
theorem gN_25_26 (k : Nat) (h1 : 25 ≤ k) (h2 : k ≤ 26) : ∀ pc e, gF k pc = some e → gChk k pc e = true := by
  rcases Nat.lt_or_ge 25 k with q | q
  · exact (fun pc e he => by obtain rfl : k = 26 := by omega
                    exact gO_26 pc e he)
  · exact (fun pc e he => by obtain rfl : k = 25 := by omega
                    exact gO_25 pc e he)
theorem gN_27_28 (k : Nat) (h1 : 27 ≤ k) (h2 : k ≤ 28) : ∀ pc e, gF k pc = some e → gChk k pc e = true := by
  rcases Nat.lt_or_ge 27 k with q | q
  · exact (fun pc e he => by obtain rfl : k = 28 := by omega
                    exact gO_28 pc e he)
  · exact (fun pc e he => by obtain rfl : k = 27 := by omega
                    exact gO_27 pc e he)
theorem gN_25_28 (k : Nat) (h1 : 25 ≤ k) (h2 : k ≤ 28) : ∀ pc e, gF k pc = some e → gChk k pc e = true := by
  rcases Nat.lt_or_ge 26 k with q | q
  · exact (gN_27_28 k (by omega) (by omega))
  · exact (gN_25_26 k (by omega) (by omega))
theorem gN_29_30 (k : Nat) (h1 : 29 ≤ k) (h2 : k ≤ 30) : ∀ pc e, gF k pc = some e → gChk k pc e = true := by
  rcases Nat.lt_or_ge 29 k with q | q
  · exact (fun pc e he => by obtain rfl : k = 30 := by omega
                    exact gO_30 pc e he)
  · exact (fun pc e he => by obtain rfl : k = 29 := by omega
                    exact gO_29 pc e he)
theorem gN_31_32 (k : Nat) (h1 : 31 ≤ k) (h2 : k ≤ 32) : ∀ pc e, gF k pc = some e → gChk k pc e = true := by
  rcases Nat.lt_or_ge 31 k with q | q
  · exact (fun pc e he => by obtain rfl : k = 32 := by omega
                    exact gO_32 pc e he)
  · exact (fun pc e he => by obtain rfl : k = 31 := by omega
                    exact gO_31 pc e he)
theorem gN_29_32 (k : Nat) (h1 : 29 ≤ k) (h2 : k ≤ 32) : ∀ pc e, gF k pc = some e → gChk k pc e = true := by
  rcases Nat.lt_or_ge 30 k with q | q
  · exact (gN_31_32 k (by omega) (by omega))
  · exact (gN_29_30 k (by omega) (by omega))
theorem gN_25_32 (k : Nat) (h1 : 25 ≤ k) (h2 : k ≤ 32) : ∀ pc e, gF k pc = some e → gChk k pc e = true := by
  rcases Nat.lt_or_ge 28 k with q | q
  · exact (gN_29_32 k (by omega) (by omega))
  · exact (gN_25_28 k (by omega) (by omega))
theorem gN_17_32 (k : Nat) (h1 : 17 ≤ k) (h2 : k ≤ 32) : ∀ pc e, gF k pc = some e → gChk k pc e = true := by
  rcases Nat.lt_or_ge 24 k with q | q
  · exact (gN_25_32 k (by omega) (by omega))
  · exact (gN_17_24 k (by omega) (by omega))
theorem gN_0_32 (k : Nat) (h1 : 0 ≤ k) (h2 : k ≤ 32) : ∀ pc e, gF k pc = some e → gChk k pc e = true := by
  rcases Nat.lt_or_ge 16 k with q | q
  · exact (gN_17_32 k (by omega) (by omega))
  · exact (gN_0_16 k (by omega) (by omega))
theorem gN_33_34 (k : Nat) (h1 : 33 ≤ k) (h2 : k ≤ 34) : ∀ pc e, gF k pc = some e → gChk k pc e = true := by
  rcases Nat.lt_or_ge 33 k with q | q
  · exact (fun pc e he => by obtain rfl : k = 34 := by omega
                    exact gO_34 pc e he)
  · exact (fun pc e he => by obtain rfl : k = 33 := by omega
                    exact gO_33 pc e he)
theorem gN_35_36 (k : Nat) (h1 : 35 ≤ k) (h2 : k ≤ 36) : ∀ pc e, gF k pc = some e → gChk k pc e = true := by
  rcases Nat.lt_or_ge 35 k with q | q
  · exact (fun pc e he => by obtain rfl : k = 36 := by omega
                    exact gO_36 pc e he)
  · exact (fun pc e he => by obtain rfl : k = 35 := by omega
                    exact gO_35 pc e he)
theorem gN_33_36 (k : Nat) (h1 : 33 ≤ k) (h2 : k ≤ 36) : ∀ pc e, gF k pc = some e → gChk k pc e = true := by
  rcases Nat.lt_or_ge 34 k with q | q
  · exact (gN_35_36 k (by omega) (by omega))
  · exact (gN_33_34 k (by omega) (by omega))
theorem gN_37_38 (k : Nat) (h1 : 37 ≤ k) (h2 : k ≤ 38) : ∀ pc e, gF k pc = some e → gChk k pc e = true := by
  rcases Nat.lt_or_ge 37 k with q | q
  · exact (fun pc e he => by obtain rfl : k = 38 := by omega
                    exact gO_38 pc e he)
  · exact (fun pc e he => by obtain rfl : k = 37 := by omega
                    exact gO_37 pc e he)
theorem gN_39_40 (k : Nat) (h1 : 39 ≤ k) (h2 : k ≤ 40) : ∀ pc e, gF k pc = some e → gChk k pc e = true := by
  rcases Nat.lt_or_ge 39 k with q | q
  · exact (fun pc e he => by obtain rfl : k = 40 := by omega
                    exact gO_40 pc e he)
  · exact (fun pc e he => by obtain rfl : k = 39 := by omega
                    exact gO_39 pc e he)
theorem gN_37_40 (k : Nat) (h1 : 37 ≤ k) (h2 : k ≤ 40) : ∀ pc e, gF k pc = some e → gChk k pc e = true := by
  rcases Nat.lt_or_ge 38 k with q | q
  · exact (gN_39_40 k (by omega) (by omega))
  · exact (gN_37_38 k (by omega) (by omega))
theorem gN_33_40 (k : Nat) (h1 : 33 ≤ k) (h2 : k ≤ 40) : ∀ pc e, gF k pc = some e → gChk k pc e = true := by
  rcases Nat.lt_or_ge 36 k with q | q
  · exact (gN_37_40 k (by omega) (by omega))
  · exact (gN_33_36 k (by omega) (by omega))
theorem gN_41_42 (k : Nat) (h1 : 41 ≤ k) (h2 : k ≤ 42) : ∀ pc e, gF k pc = some e → gChk k pc e = true := by
  rcases Nat.lt_or_ge 41 k with q | q
  · exact (fun pc e he => by obtain rfl : k = 42 := by omega
                    exact gO_42 pc e he)
  · exact (fun pc e he => by obtain rfl : k = 41 := by omega
                    exact gO_41 pc e he)
theorem gN_43_44 (k : Nat) (h1 : 43 ≤ k) (h2 : k ≤ 44) : ∀ pc e, gF k pc = some e → gChk k pc e = true := by
  rcases Nat.lt_or_ge 43 k with q | q
  · exact (fun pc e he => by obtain rfl : k = 44 := by omega
                    exact gO_44 pc e he)
  · exact (fun pc e he => by obtain rfl : k = 43 := by omega
                    exact gO_43 pc e he)
theorem gN_41_44 (k : Nat) (h1 : 41 ≤ k) (h2 : k ≤ 44) : ∀ pc e, gF k pc = some e → gChk k pc e = true := by
  rcases Nat.lt_or_ge 42 k with q | q
  · exact (gN_43_44 k (by omega) (by omega))
  · exact (gN_41_42 k (by omega) (by omega))
theorem gN_45_46 (k : Nat) (h1 : 45 ≤ k) (h2 : k ≤ 46) : ∀ pc e, gF k pc = some e → gChk k pc e = true := by
  rcases Nat.lt_or_ge 45 k with q | q
  · exact (fun pc e he => by obtain rfl : k = 46 := by omega
                    exact gO_46 pc e he)
  · exact (fun pc e he => by obtain rfl : k = 45 := by omega
                    exact gO_45 pc e he)
theorem gN_47_48 (k : Nat) (h1 : 47 ≤ k) (h2 : k ≤ 48) : ∀ pc e, gF k pc = some e → gChk k pc e = true := by
  rcases Nat.lt_or_ge 47 k with q | q
  · exact (fun pc e he => by obtain rfl : k = 48 := by omega
                    exact gO_48 pc e he)
  · exact (fun pc e he => by obtain rfl : k = 47 := by omega
                    exact gO_47 pc e he)
theorem gN_45_48 (k : Nat) (h1 : 45 ≤ k) (h2 : k ≤ 48) : ∀ pc e, gF k pc = some e → gChk k pc e = true := by
  rcases Nat.lt_or_ge 46 k with q | q
  · exact (gN_47_48 k (by omega) (by omega))
  · exact (gN_45_46 k (by omega) (by omega))
theorem gN_41_48 (k : Nat) (h1 : 41 ≤ k) (h2 : k ≤ 48) : ∀ pc e, gF k pc = some e → gChk k pc e = true := by
  rcases Nat.lt_or_ge 44 k with q | q
  · exact (gN_45_48 k (by omega) (by omega))
  · exact (gN_41_44 k (by omega) (by omega))
theorem gN_33_48 (k : Nat) (h1 : 33 ≤ k) (h2 : k ≤ 48) : ∀ pc e, gF k pc = some e → gChk k pc e = true := by
  rcases Nat.lt_or_ge 40 k with q | q
  · exact (gN_41_48 k (by omega) (by omega))
  · exact (gN_33_40 k (by omega) (by omega))
theorem gN_49_50 (k : Nat) (h1 : 49 ≤ k) (h2 : k ≤ 50) : ∀ pc e, gF k pc = some e → gChk k pc e = true := by
  rcases Nat.lt_or_ge 49 k with q | q
  · exact (fun pc e he => by obtain rfl : k = 50 := by omega
                    exact gO_50 pc e he)
  · exact (fun pc e he => by obtain rfl : k = 49 := by omega
                    exact gO_49 pc e he)
theorem gN_51_52 (k : Nat) (h1 : 51 ≤ k) (h2 : k ≤ 52) : ∀ pc e, gF k pc = some e → gChk k pc e = true := by
  rcases Nat.lt_or_ge 51 k with q | q
  · exact (fun pc e he => by obtain rfl : k = 52 := by omega
                    exact gO_52 pc e he)
  · exact (fun pc e he => by obtain rfl : k = 51 := by omega
                    exact gO_51 pc e he)
theorem gN_49_52 (k : Nat) (h1 : 49 ≤ k) (h2 : k ≤ 52) : ∀ pc e, gF k pc = some e → gChk k pc e = true := by
  rcases Nat.lt_or_ge 50 k with q | q
  · exact (gN_51_52 k (by omega) (by omega))
  · exact (gN_49_50 k (by omega) (by omega))
theorem gN_53_54 (k : Nat) (h1 : 53 ≤ k) (h2 : k ≤ 54) : ∀ pc e, gF k pc = some e → gChk k pc e = true := by
  rcases Nat.lt_or_ge 53 k with q | q
  · exact (fun pc e he => by obtain rfl : k = 54 := by omega
                    exact gO_54 pc e he)
  · exact (fun pc e he => by obtain rfl : k = 53 := by omega
                    exact gO_53 pc e he)
theorem gN_55_56 (k : Nat) (h1 : 55 ≤ k) (h2 : k ≤ 56) : ∀ pc e, gF k pc = some e → gChk k pc e = true := by
  rcases Nat.lt_or_ge 55 k with q | q
  · exact (fun pc e he => by obtain rfl : k = 56 := by omega
                    exact gO_56 pc e he)
  · exact (fun pc e he => by obtain rfl : k = 55 := by omega
                    exact gO_55 pc e he)
theorem gN_53_56 (k : Nat) (h1 : 53 ≤ k) (h2 : k ≤ 56) : ∀ pc e, gF k pc = some e → gChk k pc e = true := by
  rcases Nat.lt_or_ge 54 k with q | q
  · exact (gN_55_56 k (by omega) (by omega))
  · exact (gN_53_54 k (by omega) (by omega))
theorem gN_49_56 (k : Nat) (h1 : 49 ≤ k) (h2 : k ≤ 56) : ∀ pc e, gF k pc = some e → gChk k pc e = true := by
  rcases Nat.lt_or_ge 52 k with q | q
  · exact (gN_53_56 k (by omega) (by omega))
  · exact (gN_49_52 k (by omega) (by omega))
theorem gN_57_58 (k : Nat) (h1 : 57 ≤ k) (h2 : k ≤ 58) : ∀ pc e, gF k pc = some e → gChk k pc e = true := by
  rcases Nat.lt_or_ge 57 k with q | q
  · exact (fun pc e he => by obtain rfl : k = 58 := by omega
                    exact gO_58 pc e he)
  · exact (fun pc e he => by obtain rfl : k = 57 := by omega
                    exact gO_57 pc e he)
theorem gN_59_60 (k : Nat) (h1 : 59 ≤ k) (h2 : k ≤ 60) : ∀ pc e, gF k pc = some e → gChk k pc e = true := by
  rcases Nat.lt_or_ge 59 k with q | q
  · exact (fun pc e he => by obtain rfl : k = 60 := by omega
                    exact gO_60 pc e he)
  · exact (fun pc e he => by obtain rfl : k = 59 := by omega
                    exact gO_59 pc e he)
theorem gN_57_60 (k : Nat) (h1 : 57 ≤ k) (h2 : k ≤ 60) : ∀ pc e, gF k pc = some e → gChk k pc e = true := by
  rcases Nat.lt_or_ge 58 k with q | q
  · exact (gN_59_60 k (by omega) (by omega))
  · exact (gN_57_58 k (by omega) (by omega))
theorem gN_61_62 (k : Nat) (h1 : 61 ≤ k) (h2 : k ≤ 62) : ∀ pc e, gF k pc = some e → gChk k pc e = true := by
  rcases Nat.lt_or_ge 61 k with q | q
  · exact (fun pc e he => by obtain rfl : k = 62 := by omega
                    exact gO_62 pc e he)
  · exact (fun pc e he => by obtain rfl : k = 61 := by omega
                    exact gO_61 pc e he)
theorem gN_63_64 (k : Nat) (h1 : 63 ≤ k) (h2 : k ≤ 64) : ∀ pc e, gF k pc = some e → gChk k pc e = true := by
  rcases Nat.lt_or_ge 63 k with q | q
  · exact (fun pc e he => by obtain rfl : k = 64 := by omega
                    exact gO_64 pc e he)
  · exact (fun pc e he => by obtain rfl : k = 63 := by omega
                    exact gO_63 pc e he)
theorem gN_61_64 (k : Nat) (h1 : 61 ≤ k) (h2 : k ≤ 64) : ∀ pc e, gF k pc = some e → gChk k pc e = true := by
  rcases Nat.lt_or_ge 62 k with q | q
  · exact (gN_63_64 k (by omega) (by omega))
  · exact (gN_61_62 k (by omega) (by omega))
theorem gN_57_64 (k : Nat) (h1 : 57 ≤ k) (h2 : k ≤ 64) : ∀ pc e, gF k pc = some e → gChk k pc e = true := by
  rcases Nat.lt_or_ge 60 k with q | q
  · exact (gN_61_64 k (by omega) (by omega))
  · exact (gN_57_60 k (by omega) (by omega))
theorem gN_49_64 (k : Nat) (h1 : 49 ≤ k) (h2 : k ≤ 64) : ∀ pc e, gF k pc = some e → gChk k pc e = true := by
  rcases Nat.lt_or_ge 56 k with q | q
  · exact (gN_57_64 k (by omega) (by omega))
  · exact (gN_49_56 k (by omega) (by omega))
theorem gN_33_64 (k : Nat) (h1 : 33 ≤ k) (h2 : k ≤ 64) : ∀ pc e, gF k pc = some e → gChk k pc e = true := by
  rcases Nat.lt_or_ge 48 k with q | q
  · exact (gN_49_64 k (by omega) (by omega))
  · exact (gN_33_48 k (by omega) (by omega))
theorem gN_0_64 (k : Nat) (h1 : 0 ≤ k) (h2 : k ≤ 64) : ∀ pc e, gF k pc = some e → gChk k pc e = true := by
  rcases Nat.lt_or_ge 32 k with q | q
  · exact (gN_33_64 k (by omega) (by omega))
  · exact (gN_0_32 k (by omega) (by omega))
theorem gN_65_66 (k : Nat) (h1 : 65 ≤ k) (h2 : k ≤ 66) : ∀ pc e, gF k pc = some e → gChk k pc e = true := by
  rcases Nat.lt_or_ge 65 k with q | q
  · exact (fun pc e he => by obtain rfl : k = 66 := by omega
                    exact gO_66 pc e he)
  · exact (fun pc e he => by obtain rfl : k = 65 := by omega
                    exact gO_65 pc e he)
theorem gN_67_68 (k : Nat) (h1 : 67 ≤ k) (h2 : k ≤ 68) : ∀ pc e, gF k pc = some e → gChk k pc e = true := by
  rcases Nat.lt_or_ge 67 k with q | q
  · exact (fun pc e he => by obtain rfl : k = 68 := by omega
                    exact gO_68 pc e he)
  · exact (fun pc e he => by obtain rfl : k = 67 := by omega
                    exact gO_67 pc e he)
theorem gN_65_68 (k : Nat) (h1 : 65 ≤ k) (h2 : k ≤ 68) : ∀ pc e, gF k pc = some e → gChk k pc e = true := by
  rcases Nat.lt_or_ge 66 k with q | q
  · exact (gN_67_68 k (by omega) (by omega))
  · exact (gN_65_66 k (by omega) (by omega))
theorem gN_69_70 (k : Nat) (h1 : 69 ≤ k) (h2 : k ≤ 70) : ∀ pc e, gF k pc = some e → gChk k pc e = true := by
  rcases Nat.lt_or_ge 69 k with q | q
  · exact (fun pc e he => by obtain rfl : k = 70 := by omega
                    exact gO_70 pc e he)
  · exact (fun pc e he => by obtain rfl : k = 69 := by omega
                    exact gO_69 pc e he)
theorem gN_71_72 (k : Nat) (h1 : 71 ≤ k) (h2 : k ≤ 72) : ∀ pc e, gF k pc = some e → gChk k pc e = true := by
  rcases Nat.lt_or_ge 71 k with q | q
  · exact (fun pc e he => by obtain rfl : k = 72 := by omega
                    exact gO_72 pc e he)
  · exact (fun pc e he => by obtain rfl : k = 71 := by omega
                    exact gO_71 pc e he)
theorem gN_69_72 (k : Nat) (h1 : 69 ≤ k) (h2 : k ≤ 72) : ∀ pc e, gF k pc = some e → gChk k pc e = true := by
  rcases Nat.lt_or_ge 70 k with q | q
  · exact (gN_71_72 k (by omega) (by omega))
  · exact (gN_69_70 k (by omega) (by omega))
theorem gN_65_72 (k : Nat) (h1 : 65 ≤ k) (h2 : k ≤ 72) : ∀ pc e, gF k pc = some e → gChk k pc e = true := by
  rcases Nat.lt_or_ge 68 k with q | q
  · exact (gN_69_72 k (by omega) (by omega))
  · exact (gN_65_68 k (by omega) (by omega))
theorem gN_73_74 (k : Nat) (h1 : 73 ≤ k) (h2 : k ≤ 74) : ∀ pc e, gF k pc = some e → gChk k pc e = true := by
  rcases Nat.lt_or_ge 73 k with q | q
  · exact (fun pc e he => by obtain rfl : k = 74 := by omega
                    exact gO_74 pc e he)
  · exact (fun pc e he => by obtain rfl : k = 73 := by omega
                    exact gO_73 pc e he)
theorem gN_75_76 (k : Nat) (h1 : 75 ≤ k) (h2 : k ≤ 76) : ∀ pc e, gF k pc = some e → gChk k pc e = true := by
  rcases Nat.lt_or_ge 75 k with q | q
  · exact (fun pc e he => by obtain rfl : k = 76 := by omega
                    exact gO_76 pc e he)
  · exact (fun pc e he => by obtain rfl : k = 75 := by omega
                    exact gO_75 pc e he)
theorem gN_73_76 (k : Nat) (h1 : 73 ≤ k) (h2 : k ≤ 76) : ∀ pc e, gF k pc = some e → gChk k pc e = true := by
  rcases Nat.lt_or_ge 74 k with q | q
  · exact (gN_75_76 k (by omega) (by omega))
  · exact (gN_73_74 k (by omega) (by omega))
theorem gN_77_78 (k : Nat) (h1 : 77 ≤ k) (h2 : k ≤ 78) : ∀ pc e, gF k pc = some e → gChk k pc e = true := by
  rcases Nat.lt_or_ge 77 k with q | q
  · exact (fun pc e he => by obtain rfl : k = 78 := by omega
                    exact gO_78 pc e he)
  · exact (fun pc e he => by obtain rfl : k = 77 := by omega
                    exact gO_77 pc e he)
theorem gN_79_80 (k : Nat) (h1 : 79 ≤ k) (h2 : k ≤ 80) : ∀ pc e, gF k pc = some e → gChk k pc e = true := by
  rcases Nat.lt_or_ge 79 k with q | q
  · exact (fun pc e he => by obtain rfl : k = 80 := by omega
                    exact gO_80 pc e he)
  · exact (fun pc e he => by obtain rfl : k = 79 := by omega
                    exact gO_79 pc e he)
theorem gN_77_80 (k : Nat) (h1 : 77 ≤ k) (h2 : k ≤ 80) : ∀ pc e, gF k pc = some e → gChk k pc e = true := by
  rcases Nat.lt_or_ge 78 k with q | q
  · exact (gN_79_80 k (by omega) (by omega))
  · exact (gN_77_78 k (by omega) (by omega))
theorem gN_73_80 (k : Nat) (h1 : 73 ≤ k) (h2 : k ≤ 80) : ∀ pc e, gF k pc = some e → gChk k pc e = true := by
  rcases Nat.lt_or_ge 76 k with q | q
  · exact (gN_77_80 k (by omega) (by omega))
  · exact (gN_73_76 k (by omega) (by omega))
theorem gN_65_80 (k : Nat) (h1 : 65 ≤ k) (h2 : k ≤ 80) : ∀ pc e, gF k pc = some e → gChk k pc e = true := by
  rcases Nat.lt_or_ge 72 k with q | q
  · exact (gN_73_80 k (by omega) (by omega))
  · exact (gN_65_72 k (by omega) (by omega))
theorem gN_81_82 (k : Nat) (h1 : 81 ≤ k) (h2 : k ≤ 82) : ∀ pc e, gF k pc = some e → gChk k pc e = true := by
  rcases Nat.lt_or_ge 81 k with q | q
  · exact (fun pc e he => by obtain rfl : k = 82 := by omega
                    exact gO_82 pc e he)
  · exact (fun pc e he => by obtain rfl : k = 81 := by omega
                    exact gO_81 pc e he)
theorem gN_83_84 (k : Nat) (h1 : 83 ≤ k) (h2 : k ≤ 84) : ∀ pc e, gF k pc = some e → gChk k pc e = true := by
  rcases Nat.lt_or_ge 83 k with q | q
  · exact (fun pc e he => by obtain rfl : k = 84 := by omega
                    exact gO_84 pc e he)
  · exact (fun pc e he => by obtain rfl : k = 83 := by omega
                    exact gO_83 pc e he)
theorem gN_81_84 (k : Nat) (h1 : 81 ≤ k) (h2 : k ≤ 84) : ∀ pc e, gF k pc = some e → gChk k pc e = true := by
  rcases Nat.lt_or_ge 82 k with q | q
  · exact (gN_83_84 k (by omega) (by omega))
  · exact (gN_81_82 k (by omega) (by omega))
theorem gN_85_86 (k : Nat) (h1 : 85 ≤ k) (h2 : k ≤ 86) : ∀ pc e, gF k pc = some e → gChk k pc e = true := by
  rcases Nat.lt_or_ge 85 k with q | q
  · exact (fun pc e he => by obtain rfl : k = 86 := by omega
                    exact gO_86 pc e he)
  · exact (fun pc e he => by obtain rfl : k = 85 := by omega
                    exact gO_85 pc e he)
theorem gN_87_88 (k : Nat) (h1 : 87 ≤ k) (h2 : k ≤ 88) : ∀ pc e, gF k pc = some e → gChk k pc e = true := by
  rcases Nat.lt_or_ge 87 k with q | q
  · exact (fun pc e he => by obtain rfl : k = 88 := by omega
                    exact gO_88 pc e he)
  · exact (fun pc e he => by obtain rfl : k = 87 := by omega
                    exact gO_87 pc e he)
theorem gN_85_88 (k : Nat) (h1 : 85 ≤ k) (h2 : k ≤ 88) : ∀ pc e, gF k pc = some e → gChk k pc e = true := by
  rcases Nat.lt_or_ge 86 k with q | q
  · exact (gN_87_88 k (by omega) (by omega))
  · exact (gN_85_86 k (by omega) (by omega))
theorem gN_81_88 (k : Nat) (h1 : 81 ≤ k) (h2 : k ≤ 88) : ∀ pc e, gF k pc = some e → gChk k pc e = true := by
  rcases Nat.lt_or_ge 84 k with q | q
  · exact (gN_85_88 k (by omega) (by omega))
  · exact (gN_81_84 k (by omega) (by omega))
theorem gN_89_90 (k : Nat) (h1 : 89 ≤ k) (h2 : k ≤ 90) : ∀ pc e, gF k pc = some e → gChk k pc e = true := by
  rcases Nat.lt_or_ge 89 k with q | q
  · exact (fun pc e he => by obtain rfl : k = 90 := by omega
                    exact gO_90 pc e he)
  · exact (fun pc e he => by obtain rfl : k = 89 := by omega
                    exact gO_89 pc e he)
theorem gN_91_92 (k : Nat) (h1 : 91 ≤ k) (h2 : k ≤ 92) : ∀ pc e, gF k pc = some e → gChk k pc e = true := by
  rcases Nat.lt_or_ge 91 k with q | q
  · exact (fun pc e he => by obtain rfl : k = 92 := by omega
                    exact gO_92 pc e he)
  · exact (fun pc e he => by obtain rfl : k = 91 := by omega
                    exact gO_91 pc e he)
theorem gN_89_92 (k : Nat) (h1 : 89 ≤ k) (h2 : k ≤ 92) : ∀ pc e, gF k pc = some e → gChk k pc e = true := by
  rcases Nat.lt_or_ge 90 k with q | q
  · exact (gN_91_92 k (by omega) (by omega))
  · exact (gN_89_90 k (by omega) (by omega))
theorem gN_93_94 (k : Nat) (h1 : 93 ≤ k) (h2 : k ≤ 94) : ∀ pc e, gF k pc = some e → gChk k pc e = true := by
  rcases Nat.lt_or_ge 93 k with q | q
  · exact (fun pc e he => by obtain rfl : k = 94 := by omega
                    exact gO_94 pc e he)
  · exact (fun pc e he => by obtain rfl : k = 93 := by omega
                    exact gO_93 pc e he)
theorem gN_95_96 (k : Nat) (h1 : 95 ≤ k) (h2 : k ≤ 96) : ∀ pc e, gF k pc = some e → gChk k pc e = true := by
  rcases Nat.lt_or_ge 95 k with q | q
  · exact (fun pc e he => by obtain rfl : k = 96 := by omega
                    exact gO_96 pc e he)
  · exact (fun pc e he => by obtain rfl : k = 95 := by omega
                    exact gO_95 pc e he)
theorem gN_93_96 (k : Nat) (h1 : 93 ≤ k) (h2 : k ≤ 96) : ∀ pc e, gF k pc = some e → gChk k pc e = true := by
  rcases Nat.lt_or_ge 94 k with q | q
  · exact (gN_95_96 k (by omega) (by omega))
  · exact (gN_93_94 k (by omega) (by omega))
theorem gN_89_96 (k : Nat) (h1 : 89 ≤ k) (h2 : k ≤ 96) : ∀ pc e, gF k pc = some e → gChk k pc e = true := by
  rcases Nat.lt_or_ge 92 k with q | q
  · exact (gN_93_96 k (by omega) (by omega))
  · exact (gN_89_92 k (by omega) (by omega))
theorem gN_81_96 (k : Nat) (h1 : 81 ≤ k) (h2 : k ≤ 96) : ∀ pc e, gF k pc = some e → gChk k pc e = true := by
  rcases Nat.lt_or_ge 88 k with q | q
  · exact (gN_89_96 k (by omega) (by omega))
  · exact (gN_81_88 k (by omega) (by omega))
theorem gN_65_96 (k : Nat) (h1 : 65 ≤ k) (h2 : k ≤ 96) : ∀ pc e, gF k pc = some e → gChk k pc e = true := by
  rcases Nat.lt_or_ge 80 k with q | q
  · exact (gN_81_96 k (by omega) (by omega))
  · exact (gN_65_80 k (by omega) (by omega))
theorem gN_97_98 (k : Nat) (h1 : 97 ≤ k) (h2 : k ≤ 98) : ∀ pc e, gF k pc = some e → gChk k pc e = true := by
  rcases Nat.lt_or_ge 97 k with q | q
  · exact (fun pc e he => by obtain rfl : k = 98 := by omega
                    exact gO_98 pc e he)
  · exact (fun pc e he => by obtain rfl : k = 97 := by omega
                    exact gO_97 pc e he)
theorem gN_99_100 (k : Nat) (h1 : 99 ≤ k) (h2 : k ≤ 100) : ∀ pc e, gF k pc = some e → gChk k pc e = true := by
  rcases Nat.lt_or_ge 99 k with q | q
  · exact (fun pc e he => by obtain rfl : k = 100 := by omega
                    exact gO_100 pc e he)
  · exact (fun pc e he => by obtain rfl : k = 99 := by omega
                    exact gO_99 pc e he)
theorem gN_97_100 (k : Nat) (h1 : 97 ≤ k) (h2 : k ≤ 100) : ∀ pc e, gF k pc = some e → gChk k pc e = true := by
  rcases Nat.lt_or_ge 98 k with q | q
  · exact (gN_99_100 k (by omega) (by omega))
  · exact (gN_97_98 k (by omega) (by omega))
theorem gN_101_102 (k : Nat) (h1 : 101 ≤ k) (h2 : k ≤ 102) : ∀ pc e, gF k pc = some e → gChk k pc e = true := by
  rcases Nat.lt_or_ge 101 k with q | q
  · exact (fun pc e he => by obtain rfl : k = 102 := by omega
                    exact gO_102 pc e he)
  · exact (fun pc e he => by obtain rfl : k = 101 := by omega
                    exact gO_101 pc e he)
theorem gN_103_104 (k : Nat) (h1 : 103 ≤ k) (h2 : k ≤ 104) : ∀ pc e, gF k pc = some e → gChk k pc e = true := by
  rcases Nat.lt_or_ge 103 k with q | q
  · exact (fun pc e he => by obtain rfl : k = 104 := by omega
                    exact gO_104 pc e he)
  · exact (fun pc e he => by obtain rfl : k = 103 := by omega
                    exact gO_103 pc e he)
theorem gN_101_104 (k : Nat) (h1 : 101 ≤ k) (h2 : k ≤ 104) : ∀ pc e, gF k pc = some e → gChk k pc e = true := by
  rcases Nat.lt_or_ge 102 k with q | q
  · exact (gN_103_104 k (by omega) (by omega))
  · exact (gN_101_102 k (by omega) (by omega))
theorem gN_97_104 (k : Nat) (h1 : 97 ≤ k) (h2 : k ≤ 104) : ∀ pc e, gF k pc = some e → gChk k pc e = true := by
  rcases Nat.lt_or_ge 100 k with q | q
  · exact (gN_101_104 k (by omega) (by omega))
  · exact (gN_97_100 k (by omega) (by omega))
theorem gN_105_106 (k : Nat) (h1 : 105 ≤ k) (h2 : k ≤ 106) : ∀ pc e, gF k pc = some e → gChk k pc e = true := by
  rcases Nat.lt_or_ge 105 k with q | q
  · exact (fun pc e he => by obtain rfl : k = 106 := by omega
                    exact gO_106 pc e he)
  · exact (fun pc e he => by obtain rfl : k = 105 := by omega
                    exact gO_105 pc e he)
theorem gN_107_108 (k : Nat) (h1 : 107 ≤ k) (h2 : k ≤ 108) : ∀ pc e, gF k pc = some e → gChk k pc e = true := by
  rcases Nat.lt_or_ge 107 k with q | q
  · exact (fun pc e he => by obtain rfl : k = 108 := by omega
                    exact gO_108 pc e he)
  · exact (fun pc e he => by obtain rfl : k = 107 := by omega
                    exact gO_107 pc e he)
theorem gN_105_108 (k : Nat) (h1 : 105 ≤ k) (h2 : k ≤ 108) : ∀ pc e, gF k pc = some e → gChk k pc e = true := by
  rcases Nat.lt_or_ge 106 k with q | q
  · exact (gN_107_108 k (by omega) (by omega))
  · exact (gN_105_106 k (by omega) (by omega))
theorem gN_109_110 (k : Nat) (h1 : 109 ≤ k) (h2 : k ≤ 110) : ∀ pc e, gF k pc = some e → gChk k pc e = true := by
  rcases Nat.lt_or_ge 109 k with q | q
  · exact (fun pc e he => by obtain rfl : k = 110 := by omega
                    exact gO_110 pc e he)
  · exact (fun pc e he => by obtain rfl : k = 109 := by omega
                    exact gO_109 pc e he)
theorem gN_111_112 (k : Nat) (h1 : 111 ≤ k) (h2 : k ≤ 112) : ∀ pc e, gF k pc = some e → gChk k pc e = true := by
  rcases Nat.lt_or_ge 111 k with q | q
  · exact (fun pc e he => by obtain rfl : k = 112 := by omega
                    exact gO_112 pc e he)
  · exact (fun pc e he => by obtain rfl : k = 111 := by omega
                    exact gO_111 pc e he)
theorem gN_109_112 (k : Nat) (h1 : 109 ≤ k) (h2 : k ≤ 112) : ∀ pc e, gF k pc = some e → gChk k pc e = true := by
  rcases Nat.lt_or_ge 110 k with q | q
  · exact (gN_111_112 k (by omega) (by omega))
  · exact (gN_109_110 k (by omega) (by omega))
theorem gN_105_112 (k : Nat) (h1 : 105 ≤ k) (h2 : k ≤ 112) : ∀ pc e, gF k pc = some e → gChk k pc e = true := by
  rcases Nat.lt_or_ge 108 k with q | q
  · exact (gN_109_112 k (by omega) (by omega))
  · exact (gN_105_108 k (by omega) (by omega))
theorem gN_97_112 (k : Nat) (h1 : 97 ≤ k) (h2 : k ≤ 112) : ∀ pc e, gF k pc = some e → gChk k pc e = true := by
  rcases Nat.lt_or_ge 104 k with q | q
  · exact (gN_105_112 k (by omega) (by omega))
  · exact (gN_97_104 k (by omega) (by omega))
theorem gN_113_114 (k : Nat) (h1 : 113 ≤ k) (h2 : k ≤ 114) : ∀ pc e, gF k pc = some e → gChk k pc e = true := by
  rcases Nat.lt_or_ge 113 k with q | q
  · exact (fun pc e he => by obtain rfl : k = 114 := by omega
                    exact gO_114 pc e he)
  · exact (fun pc e he => by obtain rfl : k = 113 := by omega
                    exact gO_113 pc e he)
theorem gN_115_116 (k : Nat) (h1 : 115 ≤ k) (h2 : k ≤ 116) : ∀ pc e, gF k pc = some e → gChk k pc e = true := by
  rcases Nat.lt_or_ge 115 k with q | q
  · exact (fun pc e he => by obtain rfl : k = 116 := by omega
                    exact gO_116 pc e he)
  · exact (fun pc e he => by obtain rfl : k = 115 := by omega
                    exact gO_115 pc e he)
theorem gN_113_116 (k : Nat) (h1 : 113 ≤ k) (h2 : k ≤ 116) : ∀ pc e, gF k pc = some e → gChk k pc e = true := by
  rcases Nat.lt_or_ge 114 k with q | q
  · exact (gN_115_116 k (by omega) (by omega))
  · exact (gN_113_114 k (by omega) (by omega))
theorem gN_117_118 (k : Nat) (h1 : 117 ≤ k) (h2 : k ≤ 118) : ∀ pc e, gF k pc = some e → gChk k pc e = true := by
  rcases Nat.lt_or_ge 117 k with q | q
  · exact (fun pc e he => by obtain rfl : k = 118 := by omega
                    exact gO_118 pc e he)
  · exact (fun pc e he => by obtain rfl : k = 117 := by omega
                    exact gO_117 pc e he)
theorem gN_119_120 (k : Nat) (h1 : 119 ≤ k) (h2 : k ≤ 120) : ∀ pc e, gF k pc = some e → gChk k pc e = true := by
  rcases Nat.lt_or_ge 119 k with q | q
  · exact (fun pc e he => by obtain rfl : k = 120 := by omega
                    exact gO_120 pc e he)
  · exact (fun pc e he => by obtain rfl : k = 119 := by omega
                    exact gO_119 pc e he)
theorem gN_117_120 (k : Nat) (h1 : 117 ≤ k) (h2 : k ≤ 120) : ∀ pc e, gF k pc = some e → gChk k pc e = true := by
  rcases Nat.lt_or_ge 118 k with q | q
  · exact (gN_119_120 k (by omega) (by omega))
  · exact (gN_117_118 k (by omega) (by omega))
theorem gN_113_120 (k : Nat) (h1 : 113 ≤ k) (h2 : k ≤ 120) : ∀ pc e, gF k pc = some e → gChk k pc e = true := by
  rcases Nat.lt_or_ge 116 k with q | q
  · exact (gN_117_120 k (by omega) (by omega))
  · exact (gN_113_116 k (by omega) (by omega))
theorem gN_121_122 (k : Nat) (h1 : 121 ≤ k) (h2 : k ≤ 122) : ∀ pc e, gF k pc = some e → gChk k pc e = true := by
  rcases Nat.lt_or_ge 121 k with q | q
  · exact (fun pc e he => by obtain rfl : k = 122 := by omega
                    exact gO_122 pc e he)
  · exact (fun pc e he => by obtain rfl : k = 121 := by omega
                    exact gO_121 pc e he)
theorem gN_123_124 (k : Nat) (h1 : 123 ≤ k) (h2 : k ≤ 124) : ∀ pc e, gF k pc = some e → gChk k pc e = true := by
  rcases Nat.lt_or_ge 123 k with q | q
  · exact (fun pc e he => by obtain rfl : k = 124 := by omega
                    exact gO_124 pc e he)
  · exact (fun pc e he => by obtain rfl : k = 123 := by omega
                    exact gO_123 pc e he)
theorem gN_121_124 (k : Nat) (h1 : 121 ≤ k) (h2 : k ≤ 124) : ∀ pc e, gF k pc = some e → gChk k pc e = true := by
  rcases Nat.lt_or_ge 122 k with q | q
  · exact (gN_123_124 k (by omega) (by omega))
  · exact (gN_121_122 k (by omega) (by omega))
theorem gN_125_126 (k : Nat) (h1 : 125 ≤ k) (h2 : k ≤ 126) : ∀ pc e, gF k pc = some e → gChk k pc e = true := by
  rcases Nat.lt_or_ge 125 k with q | q
  · exact (fun pc e he => by obtain rfl : k = 126 := by omega
                    exact gO_126 pc e he)
  · exact (fun pc e he => by obtain rfl : k = 125 := by omega
                    exact gO_125 pc e he)
theorem gN_127_128 (k : Nat) (h1 : 127 ≤ k) (h2 : k ≤ 128) : ∀ pc e, gF k pc = some e → gChk k pc e = true := by
  rcases Nat.lt_or_ge 127 k with q | q
  · exact (fun pc e he => by obtain rfl : k = 128 := by omega
                    exact gO_128 pc e he)
  · exact (fun pc e he => by obtain rfl : k = 127 := by omega
                    exact gO_127 pc e he)
theorem gN_125_128 (k : Nat) (h1 : 125 ≤ k) (h2 : k ≤ 128) : ∀ pc e, gF k pc = some e → gChk k pc e = true := by
  rcases Nat.lt_or_ge 126 k with q | q
  · exact (gN_127_128 k (by omega) (by omega))
  · exact (gN_125_126 k (by omega) (by omega))
theorem gN_121_128 (k : Nat) (h1 : 121 ≤ k) (h2 : k ≤ 128) : ∀ pc e, gF k pc = some e → gChk k pc e = true := by
  rcases Nat.lt_or_ge 124 k with q | q
  · exact (gN_125_128 k (by omega) (by omega))
  · exact (gN_121_124 k (by omega) (by omega))
theorem gN_113_128 (k : Nat) (h1 : 113 ≤ k) (h2 : k ≤ 128) : ∀ pc e, gF k pc = some e → gChk k pc e = true := by
  rcases Nat.lt_or_ge 120 k with q | q
  · exact (gN_121_128 k (by omega) (by omega))
  · exact (gN_113_120 k (by omega) (by omega))
theorem gN_97_128 (k : Nat) (h1 : 97 ≤ k) (h2 : k ≤ 128) : ∀ pc e, gF k pc = some e → gChk k pc e = true := by
  rcases Nat.lt_or_ge 112 k with q | q
  · exact (gN_113_128 k (by omega) (by omega))
  · exact (gN_97_112 k (by omega) (by omega))
theorem gN_65_128 (k : Nat) (h1 : 65 ≤ k) (h2 : k ≤ 128) : ∀ pc e, gF k pc = some e → gChk k pc e = true := by
  rcases Nat.lt_or_ge 96 k with q | q
  · exact (gN_97_128 k (by omega) (by omega))
  · exact (gN_65_96 k (by omega) (by omega))
theorem gN_0_128 (k : Nat) (h1 : 0 ≤ k) (h2 : k ≤ 128) : ∀ pc e, gF k pc = some e → gChk k pc e = true := by
  rcases Nat.lt_or_ge 64 k with q | q
  · exact (gN_65_128 k (by omega) (by omega))
  · exact (gN_0_64 k (by omega) (by omega))
theorem gN_129_130 (k : Nat) (h1 : 129 ≤ k) (h2 : k ≤ 130) : ∀ pc e, gF k pc = some e → gChk k pc e = true := by
  rcases Nat.lt_or_ge 129 k with q | q
  · exact (fun pc e he => by obtain rfl : k = 130 := by omega
                    exact gO_130 pc e he)
  · exact (fun pc e he => by obtain rfl : k = 129 := by omega
                    exact gO_129 pc e he)
theorem gN_129_131 (k : Nat) (h1 : 129 ≤ k) (h2 : k ≤ 131) : ∀ pc e, gF k pc = some e → gChk k pc e = true := by
  rcases Nat.lt_or_ge 130 k with q | q
  · exact (fun pc e he => by obtain rfl : k = 131 := by omega
                    exact gO_131 pc e he)
  · exact (gN_129_130 k (by omega) (by omega))
theorem gN_132_133 (k : Nat) (h1 : 132 ≤ k) (h2 : k ≤ 133) : ∀ pc e, gF k pc = some e → gChk k pc e = true := by
  rcases Nat.lt_or_ge 132 k with q | q
  · exact (fun pc e he => by obtain rfl : k = 133 := by omega
                    exact gO_133 pc e he)
  · exact (fun pc e he => by obtain rfl : k = 132 := by omega
                    exact gO_132 pc e he)
theorem gN_129_133 (k : Nat) (h1 : 129 ≤ k) (h2 : k ≤ 133) : ∀ pc e, gF k pc = some e → gChk k pc e = true := by
  rcases Nat.lt_or_ge 131 k with q | q
  · exact (gN_132_133 k (by omega) (by omega))
  · exact (gN_129_131 k (by omega) (by omega))
theorem gN_134_135 (k : Nat) (h1 : 134 ≤ k) (h2 : k ≤ 135) : ∀ pc e, gF k pc = some e → gChk k pc e = true := by
  rcases Nat.lt_or_ge 134 k with q | q
  · exact (fun pc e he => by obtain rfl : k = 135 := by omega
                    exact gO_135 pc e he)
  · exact (fun pc e he => by obtain rfl : k = 134 := by omega
                    exact gO_134 pc e he)
theorem gN_136_137 (k : Nat) (h1 : 136 ≤ k) (h2 : k ≤ 137) : ∀ pc e, gF k pc = some e → gChk k pc e = true := by
  rcases Nat.lt_or_ge 136 k with q | q
  · exact (fun pc e he => by obtain rfl : k = 137 := by omega
                    exact gO_137 pc e he)
  · exact (fun pc e he => by obtain rfl : k = 136 := by omega
                    exact gO_136 pc e he)
theorem gN_134_137 (k : Nat) (h1 : 134 ≤ k) (h2 : k ≤ 137) : ∀ pc e, gF k pc = some e → gChk k pc e = true := by
  rcases Nat.lt_or_ge 135 k with q | q
  · exact (gN_136_137 k (by omega) (by omega))
  · exact (gN_134_135 k (by omega) (by omega))
theorem gN_129_137 (k : Nat) (h1 : 129 ≤ k) (h2 : k ≤ 137) : ∀ pc e, gF k pc = some e → gChk k pc e = true := by
  rcases Nat.lt_or_ge 133 k with q | q
  · exact (gN_134_137 k (by omega) (by omega))
  · exact (gN_129_133 k (by omega) (by omega))
theorem gN_138_139 (k : Nat) (h1 : 138 ≤ k) (h2 : k ≤ 139) : ∀ pc e, gF k pc = some e → gChk k pc e = true := by
  rcases Nat.lt_or_ge 138 k with q | q
  · exact (fun pc e he => by obtain rfl : k = 139 := by omega
                    exact gO_139 pc e he)
  · exact (fun pc e he => by obtain rfl : k = 138 := by omega
                    exact gO_138 pc e he)
theorem gN_140_141 (k : Nat) (h1 : 140 ≤ k) (h2 : k ≤ 141) : ∀ pc e, gF k pc = some e → gChk k pc e = true := by
  rcases Nat.lt_or_ge 140 k with q | q
  · exact (fun pc e he => by obtain rfl : k = 141 := by omega
                    exact gO_141 pc e he)
  · exact (fun pc e he => by obtain rfl : k = 140 := by omega
                    exact gO_140 pc e he)
theorem gN_138_141 (k : Nat) (h1 : 138 ≤ k) (h2 : k ≤ 141) : ∀ pc e, gF k pc = some e → gChk k pc e = true := by
  rcases Nat.lt_or_ge 139 k with q | q
  · exact (gN_140_141 k (by omega) (by omega))
  · exact (gN_138_139 k (by omega) (by omega))
theorem gN_142_143 (k : Nat) (h1 : 142 ≤ k) (h2 : k ≤ 143) : ∀ pc e, gF k pc = some e → gChk k pc e = true := by
  rcases Nat.lt_or_ge 142 k with q | q
  · exact (fun pc e he => by obtain rfl : k = 143 := by omega
                    exact gO_143 pc e he)
  · exact (fun pc e he => by obtain rfl : k = 142 := by omega
                    exact gO_142 pc e he)
theorem gN_144_145 (k : Nat) (h1 : 144 ≤ k) (h2 : k ≤ 145) : ∀ pc e, gF k pc = some e → gChk k pc e = true := by
  rcases Nat.lt_or_ge 144 k with q | q
  · exact (fun pc e he => by obtain rfl : k = 145 := by omega
                    exact gO_145 pc e he)
  · exact (fun pc e he => by obtain rfl : k = 144 := by omega
                    exact gO_144 pc e he)
theorem gN_142_145 (k : Nat) (h1 : 142 ≤ k) (h2 : k ≤ 145) : ∀ pc e, gF k pc = some e → gChk k pc e = true := by
  rcases Nat.lt_or_ge 143 k with q | q
  · exact (gN_144_145 k (by omega) (by omega))
  · exact (gN_142_143 k (by omega) (by omega))
theorem gN_138_145 (k : Nat) (h1 : 138 ≤ k) (h2 : k ≤ 145) : ∀ pc e, gF k pc = some e → gChk k pc e = true := by
  rcases Nat.lt_or_ge 141 k with q | q
  · exact (gN_142_145 k (by omega) (by omega))
  · exact (gN_138_141 k (by omega) (by omega))
theorem gN_129_145 (k : Nat) (h1 : 129 ≤ k) (h2 : k ≤ 145) : ∀ pc e, gF k pc = some e → gChk k pc e = true := by
  rcases Nat.lt_or_ge 137 k with q | q
  · exact (gN_138_145 k (by omega) (by omega))
  · exact (gN_129_137 k (by omega) (by omega))
theorem gN_146_147 (k : Nat) (h1 : 146 ≤ k) (h2 : k ≤ 147) : ∀ pc e, gF k pc = some e → gChk k pc e = true := by
  rcases Nat.lt_or_ge 146 k with q | q
  · exact (fun pc e he => by obtain rfl : k = 147 := by omega
                    exact gO_147 pc e he)
  · exact (fun pc e he => by obtain rfl : k = 146 := by omega
                    exact gO_146 pc e he)
theorem gN_148_149 (k : Nat) (h1 : 148 ≤ k) (h2 : k ≤ 149) : ∀ pc e, gF k pc = some e → gChk k pc e = true := by
  rcases Nat.lt_or_ge 148 k with q | q
  · exact (fun pc e he => by obtain rfl : k = 149 := by omega
                    exact gO_149 pc e he)
  · exact (fun pc e he => by obtain rfl : k = 148 := by omega
                    exact gO_148 pc e he)
theorem gN_146_149 (k : Nat) (h1 : 146 ≤ k) (h2 : k ≤ 149) : ∀ pc e, gF k pc = some e → gChk k pc e = true := by
  rcases Nat.lt_or_ge 147 k with q | q
  · exact (gN_148_149 k (by omega) (by omega))
  · exact (gN_146_147 k (by omega) (by omega))
theorem gN_150_151 (k : Nat) (h1 : 150 ≤ k) (h2 : k ≤ 151) : ∀ pc e, gF k pc = some e → gChk k pc e = true := by
  rcases Nat.lt_or_ge 150 k with q | q
  · exact (fun pc e he => by obtain rfl : k = 151 := by omega
                    exact gO_151 pc e he)
  · exact (fun pc e he => by obtain rfl : k = 150 := by omega
                    exact gO_150 pc e he)
theorem gN_152_153 (k : Nat) (h1 : 152 ≤ k) (h2 : k ≤ 153) : ∀ pc e, gF k pc = some e → gChk k pc e = true := by
  rcases Nat.lt_or_ge 152 k with q | q
  · exact (fun pc e he => by obtain rfl : k = 153 := by omega
                    exact gO_153 pc e he)
  · exact (fun pc e he => by obtain rfl : k = 152 := by omega
                    exact gO_152 pc e he)
theorem gN_150_153 (k : Nat) (h1 : 150 ≤ k) (h2 : k ≤ 153) : ∀ pc e, gF k pc = some e → gChk k pc e = true := by
  rcases Nat.lt_or_ge 151 k with q | q
  · exact (gN_152_153 k (by omega) (by omega))
  · exact (gN_150_151 k (by omega) (by omega))
theorem gN_146_153 (k : Nat) (h1 : 146 ≤ k) (h2 : k ≤ 153) : ∀ pc e, gF k pc = some e → gChk k pc e = true := by
  rcases Nat.lt_or_ge 149 k with q | q
  · exact (gN_150_153 k (by omega) (by omega))
  · exact (gN_146_149 k (by omega) (by omega))
theorem gN_154_155 (k : Nat) (h1 : 154 ≤ k) (h2 : k ≤ 155) : ∀ pc e, gF k pc = some e → gChk k pc e = true := by
  rcases Nat.lt_or_ge 154 k with q | q
  · exact (fun pc e he => by obtain rfl : k = 155 := by omega
                    exact gO_155 pc e he)
  · exact (fun pc e he => by obtain rfl : k = 154 := by omega
                    exact gO_154 pc e he)
theorem gN_156_157 (k : Nat) (h1 : 156 ≤ k) (h2 : k ≤ 157) : ∀ pc e, gF k pc = some e → gChk k pc e = true := by
  rcases Nat.lt_or_ge 156 k with q | q
  · exact (fun pc e he => by obtain rfl : k = 157 := by omega
                    exact gO_157 pc e he)
  · exact (fun pc e he => by obtain rfl : k = 156 := by omega
                    exact gO_156 pc e he)
theorem gN_154_157 (k : Nat) (h1 : 154 ≤ k) (h2 : k ≤ 157) : ∀ pc e, gF k pc = some e → gChk k pc e = true := by
  rcases Nat.lt_or_ge 155 k with q | q
  · exact (gN_156_157 k (by omega) (by omega))
  · exact (gN_154_155 k (by omega) (by omega))
theorem gN_158_159 (k : Nat) (h1 : 158 ≤ k) (h2 : k ≤ 159) : ∀ pc e, gF k pc = some e → gChk k pc e = true := by
  rcases Nat.lt_or_ge 158 k with q | q
  · exact (fun pc e he => by obtain rfl : k = 159 := by omega
                    exact gO_159 pc e he)
  · exact (fun pc e he => by obtain rfl : k = 158 := by omega
                    exact gO_158 pc e he)
theorem gN_160_161 (k : Nat) (h1 : 160 ≤ k) (h2 : k ≤ 161) : ∀ pc e, gF k pc = some e → gChk k pc e = true := by
  rcases Nat.lt_or_ge 160 k with q | q
  · exact (fun pc e he => by obtain rfl : k = 161 := by omega
                    exact gO_161 pc e he)
  · exact (fun pc e he => by obtain rfl : k = 160 := by omega
                    exact gO_160 pc e he)
theorem gN_158_161 (k : Nat) (h1 : 158 ≤ k) (h2 : k ≤ 161) : ∀ pc e, gF k pc = some e → gChk k pc e = true := by
  rcases Nat.lt_or_ge 159 k with q | q
  · exact (gN_160_161 k (by omega) (by omega))
  · exact (gN_158_159 k (by omega) (by omega))
theorem gN_154_161 (k : Nat) (h1 : 154 ≤ k) (h2 : k ≤ 161) : ∀ pc e, gF k pc = some e → gChk k pc e = true := by
  rcases Nat.lt_or_ge 157 k with q | q
  · exact (gN_158_161 k (by omega) (by omega))
  · exact (gN_154_157 k (by omega) (by omega))
theorem gN_146_161 (k : Nat) (h1 : 146 ≤ k) (h2 : k ≤ 161) : ∀ pc e, gF k pc = some e → gChk k pc e = true := by
  rcases Nat.lt_or_ge 153 k with q | q
  · exact (gN_154_161 k (by omega) (by omega))
  · exact (gN_146_153 k (by omega) (by omega))
theorem gN_129_161 (k : Nat) (h1 : 129 ≤ k) (h2 : k ≤ 161) : ∀ pc e, gF k pc = some e → gChk k pc e = true := by
  rcases Nat.lt_or_ge 145 k with q | q
  · exact (gN_146_161 k (by omega) (by omega))
  · exact (gN_129_145 k (by omega) (by omega))
theorem gN_162_163 (k : Nat) (h1 : 162 ≤ k) (h2 : k ≤ 163) : ∀ pc e, gF k pc = some e → gChk k pc e = true := by
  rcases Nat.lt_or_ge 162 k with q | q
  · exact (fun pc e he => by obtain rfl : k = 163 := by omega
                    exact gO_163 pc e he)
  · exact (fun pc e he => by obtain rfl : k = 162 := by omega
                    exact gO_162 pc e he)
theorem gN_164_165 (k : Nat) (h1 : 164 ≤ k) (h2 : k ≤ 165) : ∀ pc e, gF k pc = some e → gChk k pc e = true := by
  rcases Nat.lt_or_ge 164 k with q | q
  · exact (fun pc e he => by obtain rfl : k = 165 := by omega
                    exact gO_165 pc e he)
  · exact (fun pc e he => by obtain rfl : k = 164 := by omega
                    exact gO_164 pc e he)
theorem gN_162_165 (k : Nat) (h1 : 162 ≤ k) (h2 : k ≤ 165) : ∀ pc e, gF k pc = some e → gChk k pc e = true := by
  rcases Nat.lt_or_ge 163 k with q | q
  · exact (gN_164_165 k (by omega) (by omega))
  · exact (gN_162_163 k (by omega) (by omega))
theorem gN_166_167 (k : Nat) (h1 : 166 ≤ k) (h2 : k ≤ 167) : ∀ pc e, gF k pc = some e → gChk k pc e = true := by
  rcases Nat.lt_or_ge 166 k with q | q
  · exact (fun pc e he => by obtain rfl : k = 167 := by omega
                    exact gO_167 pc e he)
  · exact (fun pc e he => by obtain rfl : k = 166 := by omega
                    exact gO_166 pc e he)
theorem gN_168_169 (k : Nat) (h1 : 168 ≤ k) (h2 : k ≤ 169) : ∀ pc e, gF k pc = some e → gChk k pc e = true := by
  rcases Nat.lt_or_ge 168 k with q | q
  · exact (fun pc e he => by obtain rfl : k = 169 := by omega
                    exact gO_169 pc e he)
  · exact (fun pc e he => by obtain rfl : k = 168 := by omega
                    exact gO_168 pc e he)
theorem gN_166_169 (k : Nat) (h1 : 166 ≤ k) (h2 : k ≤ 169) : ∀ pc e, gF k pc = some e → gChk k pc e = true := by
  rcases Nat.lt_or_ge 167 k with q | q
  · exact (gN_168_169 k (by omega) (by omega))
  · exact (gN_166_167 k (by omega) (by omega))
theorem gN_162_169 (k : Nat) (h1 : 162 ≤ k) (h2 : k ≤ 169) : ∀ pc e, gF k pc = some e → gChk k pc e = true := by
  rcases Nat.lt_or_ge 165 k with q | q
  · exact (gN_166_169 k (by omega) (by omega))
  · exact (gN_162_165 k (by omega) (by omega))
theorem gN_170_171 (k : Nat) (h1 : 170 ≤ k) (h2 : k ≤ 171) : ∀ pc e, gF k pc = some e → gChk k pc e = true := by
  rcases Nat.lt_or_ge 170 k with q | q
  · exact (fun pc e he => by obtain rfl : k = 171 := by omega
                    exact gO_171 pc e he)
  · exact (fun pc e he => by obtain rfl : k = 170 := by omega
                    exact gO_170 pc e he)
theorem gN_172_173 (k : Nat) (h1 : 172 ≤ k) (h2 : k ≤ 173) : ∀ pc e, gF k pc = some e → gChk k pc e = true := by
  rcases Nat.lt_or_ge 172 k with q | q
  · exact (fun pc e he => by obtain rfl : k = 173 := by omega
                    exact gO_173 pc e he)
  · exact (fun pc e he => by obtain rfl : k = 172 := by omega
                    exact gO_172 pc e he)
theorem gN_170_173 (k : Nat) (h1 : 170 ≤ k) (h2 : k ≤ 173) : ∀ pc e, gF k pc = some e → gChk k pc e = true := by
  rcases Nat.lt_or_ge 171 k with q | q
  · exact (gN_172_173 k (by omega) (by omega))
  · exact (gN_170_171 k (by omega) (by omega))
theorem gN_174_175 (k : Nat) (h1 : 174 ≤ k) (h2 : k ≤ 175) : ∀ pc e, gF k pc = some e → gChk k pc e = true := by
  rcases Nat.lt_or_ge 174 k with q | q
  · exact (fun pc e he => by obtain rfl : k = 175 := by omega
                    exact gO_175 pc e he)
  · exact (fun pc e he => by obtain rfl : k = 174 := by omega
                    exact gO_174 pc e he)
theorem gN_176_177 (k : Nat) (h1 : 176 ≤ k) (h2 : k ≤ 177) : ∀ pc e, gF k pc = some e → gChk k pc e = true := by
  rcases Nat.lt_or_ge 176 k with q | q
  · exact (fun pc e he => by obtain rfl : k = 177 := by omega
                    exact gO_177 pc e he)
  · exact (fun pc e he => by obtain rfl : k = 176 := by omega
                    exact gO_176 pc e he)
theorem gN_174_177 (k : Nat) (h1 : 174 ≤ k) (h2 : k ≤ 177) : ∀ pc e, gF k pc = some e → gChk k pc e = true := by
  rcases Nat.lt_or_ge 175 k with q | q
  · exact (gN_176_177 k (by omega) (by omega))
  · exact (gN_174_175 k (by omega) (by omega))
theorem gN_170_177 (k : Nat) (h1 : 170 ≤ k) (h2 : k ≤ 177) : ∀ pc e, gF k pc = some e → gChk k pc e = true := by
  rcases Nat.lt_or_ge 173 k with q | q
  · exact (gN_174_177 k (by omega) (by omega))
  · exact (gN_170_173 k (by omega) (by omega))
theorem gN_162_177 (k : Nat) (h1 : 162 ≤ k) (h2 : k ≤ 177) : ∀ pc e, gF k pc = some e → gChk k pc e = true := by
  rcases Nat.lt_or_ge 169 k with q | q
  · exact (gN_170_177 k (by omega) (by omega))
  · exact (gN_162_169 k (by omega) (by omega))
theorem gN_178_179 (k : Nat) (h1 : 178 ≤ k) (h2 : k ≤ 179) : ∀ pc e, gF k pc = some e → gChk k pc e = true := by
  rcases Nat.lt_or_ge 178 k with q | q
  · exact (fun pc e he => by obtain rfl : k = 179 := by omega
                    exact gO_179 pc e he)
  · exact (fun pc e he => by obtain rfl : k = 178 := by omega
                    exact gO_178 pc e he)
theorem gN_180_181 (k : Nat) (h1 : 180 ≤ k) (h2 : k ≤ 181) : ∀ pc e, gF k pc = some e → gChk k pc e = true := by
  rcases Nat.lt_or_ge 180 k with q | q
  · exact (fun pc e he => by obtain rfl : k = 181 := by omega
                    exact gO_181 pc e he)
  · exact (fun pc e he => by obtain rfl : k = 180 := by omega
                    exact gO_180 pc e he)
theorem gN_178_181 (k : Nat) (h1 : 178 ≤ k) (h2 : k ≤ 181) : ∀ pc e, gF k pc = some e → gChk k pc e = true := by
  rcases Nat.lt_or_ge 179 k with q | q
  · exact (gN_180_181 k (by omega) (by omega))
  · exact (gN_178_179 k (by omega) (by omega))
theorem gN_182_183 (k : Nat) (h1 : 182 ≤ k) (h2 : k ≤ 183) : ∀ pc e, gF k pc = some e → gChk k pc e = true := by
  rcases Nat.lt_or_ge 182 k with q | q
  · exact (fun pc e he => by obtain rfl : k = 183 := by omega
                    exact gO_183 pc e he)
  · exact (fun pc e he => by obtain rfl : k = 182 := by omega
                    exact gO_182 pc e he)
theorem gN_184_185 (k : Nat) (h1 : 184 ≤ k) (h2 : k ≤ 185) : ∀ pc e, gF k pc = some e → gChk k pc e = true := by
  rcases Nat.lt_or_ge 184 k with q | q
  · exact (fun pc e he => by obtain rfl : k = 185 := by omega
                    exact gO_185 pc e he)
  · exact (fun pc e he => by obtain rfl : k = 184 := by omega
                    exact gO_184 pc e he)
theorem gN_182_185 (k : Nat) (h1 : 182 ≤ k) (h2 : k ≤ 185) : ∀ pc e, gF k pc = some e → gChk k pc e = true := by
  rcases Nat.lt_or_ge 183 k with q | q
  · exact (gN_184_185 k (by omega) (by omega))
  · exact (gN_182_183 k (by omega) (by omega))
theorem gN_178_185 (k : Nat) (h1 : 178 ≤ k) (h2 : k ≤ 185) : ∀ pc e, gF k pc = some e → gChk k pc e = true := by
  rcases Nat.lt_or_ge 181 k with q | q
  · exact (gN_182_185 k (by omega) (by omega))
  · exact (gN_178_181 k (by omega) (by omega))
theorem gN_186_187 (k : Nat) (h1 : 186 ≤ k) (h2 : k ≤ 187) : ∀ pc e, gF k pc = some e → gChk k pc e = true := by
  rcases Nat.lt_or_ge 186 k with q | q
  · exact (fun pc e he => by obtain rfl : k = 187 := by omega
                    exact gO_187 pc e he)
  · exact (fun pc e he => by obtain rfl : k = 186 := by omega
                    exact gO_186 pc e he)
theorem gN_188_189 (k : Nat) (h1 : 188 ≤ k) (h2 : k ≤ 189) : ∀ pc e, gF k pc = some e → gChk k pc e = true := by
  rcases Nat.lt_or_ge 188 k with q | q
  · exact (fun pc e he => by obtain rfl : k = 189 := by omega
                    exact gO_189 pc e he)
  · exact (fun pc e he => by obtain rfl : k = 188 := by omega
                    exact gO_188 pc e he)
theorem gN_186_189 (k : Nat) (h1 : 186 ≤ k) (h2 : k ≤ 189) : ∀ pc e, gF k pc = some e → gChk k pc e = true := by
  rcases Nat.lt_or_ge 187 k with q | q
  · exact (gN_188_189 k (by omega) (by omega))
  · exact (gN_186_187 k (by omega) (by omega))
theorem gN_190_191 (k : Nat) (h1 : 190 ≤ k) (h2 : k ≤ 191) : ∀ pc e, gF k pc = some e → gChk k pc e = true := by
  rcases Nat.lt_or_ge 190 k with q | q
  · exact (fun pc e he => by obtain rfl : k = 191 := by omega
                    exact gO_191 pc e he)
  · exact (fun pc e he => by obtain rfl : k = 190 := by omega
                    exact gO_190 pc e he)
theorem gN_192_193 (k : Nat) (h1 : 192 ≤ k) (h2 : k ≤ 193) : ∀ pc e, gF k pc = some e → gChk k pc e = true := by
  rcases Nat.lt_or_ge 192 k with q | q
  · exact (fun pc e he => by obtain rfl : k = 193 := by omega
                    exact gO_193 pc e he)
  · exact (fun pc e he => by obtain rfl : k = 192 := by omega
                    exact gO_192 pc e he)
theorem gN_190_193 (k : Nat) (h1 : 190 ≤ k) (h2 : k ≤ 193) : ∀ pc e, gF k pc = some e → gChk k pc e = true := by
  rcases Nat.lt_or_ge 191 k with q | q
  · exact (gN_192_193 k (by omega) (by omega))
  · exact (gN_190_191 k (by omega) (by omega))
theorem gN_186_193 (k : Nat) (h1 : 186 ≤ k) (h2 : k ≤ 193) : ∀ pc e, gF k pc = some e → gChk k pc e = true := by
  rcases Nat.lt_or_ge 189 k with q | q
  · exact (gN_190_193 k (by omega) (by omega))
  · exact (gN_186_189 k (by omega) (by omega))
theorem gN_178_193 (k : Nat) (h1 : 178 ≤ k) (h2 : k ≤ 193) : ∀ pc e, gF k pc = some e → gChk k pc e = true := by
  rcases Nat.lt_or_ge 185 k with q | q
  · exact (gN_186_193 k (by omega) (by omega))
  · exact (gN_178_185 k (by omega) (by omega))
theorem gN_162_193 (k : Nat) (h1 : 162 ≤ k) (h2 : k ≤ 193) : ∀ pc e, gF k pc = some e → gChk k pc e = true := by
  rcases Nat.lt_or_ge 177 k with q | q
  · exact (gN_178_193 k (by omega) (by omega))
  · exact (gN_162_177 k (by omega) (by omega))
theorem gN_129_193 (k : Nat) (h1 : 129 ≤ k) (h2 : k ≤ 193) : ∀ pc e, gF k pc = some e → gChk k pc e = true := by
  rcases Nat.lt_or_ge 161 k with q | q
  · exact (gN_162_193 k (by omega) (by omega))
  · exact (gN_129_161 k (by omega) (by omega))
theorem gN_194_195 (k : Nat) (h1 : 194 ≤ k) (h2 : k ≤ 195) : ∀ pc e, gF k pc = some e → gChk k pc e = true := by
  rcases Nat.lt_or_ge 194 k with q | q
  · exact (fun pc e he => by obtain rfl : k = 195 := by omega
                    exact gO_195 pc e he)
  · exact (fun pc e he => by obtain rfl : k = 194 := by omega
                    exact gO_194 pc e he)
theorem gN_196_197 (k : Nat) (h1 : 196 ≤ k) (h2 : k ≤ 197) : ∀ pc e, gF k pc = some e → gChk k pc e = true := by
  rcases Nat.lt_or_ge 196 k with q | q
  · exact (fun pc e he => by obtain rfl : k = 197 := by omega
                    exact gO_197 pc e he)
  · exact (fun pc e he => by obtain rfl : k = 196 := by omega
                    exact gO_196 pc e he)
theorem gN_194_197 (k : Nat) (h1 : 194 ≤ k) (h2 : k ≤ 197) : ∀ pc e, gF k pc = some e → gChk k pc e = true := by
  rcases Nat.lt_or_ge 195 k with q | q
  · exact (gN_196_197 k (by omega) (by omega))
  · exact (gN_194_195 k (by omega) (by omega))
theorem gN_198_199 (k : Nat) (h1 : 198 ≤ k) (h2 : k ≤ 199) : ∀ pc e, gF k pc = some e → gChk k pc e = true := by
  rcases Nat.lt_or_ge 198 k with q | q
  · exact (fun pc e he => by obtain rfl : k = 199 := by omega
                    exact gO_199 pc e he)
  · exact (fun pc e he => by obtain rfl : k = 198 := by omega
                    exact gO_198 pc e he)
theorem gN_200_201 (k : Nat) (h1 : 200 ≤ k) (h2 : k ≤ 201) : ∀ pc e, gF k pc = some e → gChk k pc e = true := by
  rcases Nat.lt_or_ge 200 k with q | q
  · exact (fun pc e he => by obtain rfl : k = 201 := by omega
                    exact gO_201 pc e he)
  · exact (fun pc e he => by obtain rfl : k = 200 := by omega
                    exact gO_200 pc e he)
theorem gN_198_201 (k : Nat) (h1 : 198 ≤ k) (h2 : k ≤ 201) : ∀ pc e, gF k pc = some e → gChk k pc e = true := by
  rcases Nat.lt_or_ge 199 k with q | q
  · exact (gN_200_201 k (by omega) (by omega))
  · exact (gN_198_199 k (by omega) (by omega))
theorem gN_194_201 (k : Nat) (h1 : 194 ≤ k) (h2 : k ≤ 201) : ∀ pc e, gF k pc = some e → gChk k pc e = true := by
  rcases Nat.lt_or_ge 197 k with q | q
  · exact (gN_198_201 k (by omega) (by omega))
  · exact (gN_194_197 k (by omega) (by omega))
theorem gN_202_203 (k : Nat) (h1 : 202 ≤ k) (h2 : k ≤ 203) : ∀ pc e, gF k pc = some e → gChk k pc e = true := by
  rcases Nat.lt_or_ge 202 k with q | q
  · exact (fun pc e he => by obtain rfl : k = 203 := by omega
                    exact gO_203 pc e he)
  · exact (fun pc e he => by obtain rfl : k = 202 := by omega
                    exact gO_202 pc e he)
theorem gN_204_205 (k : Nat) (h1 : 204 ≤ k) (h2 : k ≤ 205) : ∀ pc e, gF k pc = some e → gChk k pc e = true := by
  rcases Nat.lt_or_ge 204 k with q | q
  · exact (fun pc e he => by obtain rfl : k = 205 := by omega
                    exact gO_205 pc e he)
  · exact (fun pc e he => by obtain rfl : k = 204 := by omega
                    exact gO_204 pc e he)
theorem gN_202_205 (k : Nat) (h1 : 202 ≤ k) (h2 : k ≤ 205) : ∀ pc e, gF k pc = some e → gChk k pc e = true := by
  rcases Nat.lt_or_ge 203 k with q | q
  · exact (gN_204_205 k (by omega) (by omega))
  · exact (gN_202_203 k (by omega) (by omega))
theorem gN_206_207 (k : Nat) (h1 : 206 ≤ k) (h2 : k ≤ 207) : ∀ pc e, gF k pc = some e → gChk k pc e = true := by
  rcases Nat.lt_or_ge 206 k with q | q
  · exact (fun pc e he => by obtain rfl : k = 207 := by omega
                    exact gO_207 pc e he)
  · exact (fun pc e he => by obtain rfl : k = 206 := by omega
                    exact gO_206 pc e he)
theorem gN_208_209 (k : Nat) (h1 : 208 ≤ k) (h2 : k ≤ 209) : ∀ pc e, gF k pc = some e → gChk k pc e = true := by
  rcases Nat.lt_or_ge 208 k with q | q
  · exact (fun pc e he => by obtain rfl : k = 209 := by omega
                    exact gO_209 pc e he)
  · exact (fun pc e he => by obtain rfl : k = 208 := by omega
                    exact gO_208 pc e he)
theorem gN_206_209 (k : Nat) (h1 : 206 ≤ k) (h2 : k ≤ 209) : ∀ pc e, gF k pc = some e → gChk k pc e = true := by
  rcases Nat.lt_or_ge 207 k with q | q
  · exact (gN_208_209 k (by omega) (by omega))
  · exact (gN_206_207 k (by omega) (by omega))
theorem gN_202_209 (k : Nat) (h1 : 202 ≤ k) (h2 : k ≤ 209) : ∀ pc e, gF k pc = some e → gChk k pc e = true := by
  rcases Nat.lt_or_ge 205 k with q | q
  · exact (gN_206_209 k (by omega) (by omega))
  · exact (gN_202_205 k (by omega) (by omega))
theorem gN_194_209 (k : Nat) (h1 : 194 ≤ k) (h2 : k ≤ 209) : ∀ pc e, gF k pc = some e → gChk k pc e = true := by
  rcases Nat.lt_or_ge 201 k with q | q
  · exact (gN_202_209 k (by omega) (by omega))
  · exact (gN_194_201 k (by omega) (by omega))
theorem gN_210_211 (k : Nat) (h1 : 210 ≤ k) (h2 : k ≤ 211) : ∀ pc e, gF k pc = some e → gChk k pc e = true := by
  rcases Nat.lt_or_ge 210 k with q | q
  · exact (fun pc e he => by obtain rfl : k = 211 := by omega
                    exact gO_211 pc e he)
  · exact (fun pc e he => by obtain rfl : k = 210 := by omega
                    exact gO_210 pc e he)
theorem gN_212_213 (k : Nat) (h1 : 212 ≤ k) (h2 : k ≤ 213) : ∀ pc e, gF k pc = some e → gChk k pc e = true := by
  rcases Nat.lt_or_ge 212 k with q | q
  · exact (fun pc e he => by obtain rfl : k = 213 := by omega
                    exact gO_213 pc e he)
  · exact (fun pc e he => by obtain rfl : k = 212 := by omega
                    exact gO_212 pc e he)
theorem gN_210_213 (k : Nat) (h1 : 210 ≤ k) (h2 : k ≤ 213) : ∀ pc e, gF k pc = some e → gChk k pc e = true := by
  rcases Nat.lt_or_ge 211 k with q | q
  · exact (gN_212_213 k (by omega) (by omega))
  · exact (gN_210_211 k (by omega) (by omega))
theorem gN_214_215 (k : Nat) (h1 : 214 ≤ k) (h2 : k ≤ 215) : ∀ pc e, gF k pc = some e → gChk k pc e = true := by
  rcases Nat.lt_or_ge 214 k with q | q
  · exact (fun pc e he => by obtain rfl : k = 215 := by omega
                    exact gO_215 pc e he)
  · exact (fun pc e he => by obtain rfl : k = 214 := by omega
                    exact gO_214 pc e he)
theorem gN_216_217 (k : Nat) (h1 : 216 ≤ k) (h2 : k ≤ 217) : ∀ pc e, gF k pc = some e → gChk k pc e = true := by
  rcases Nat.lt_or_ge 216 k with q | q
  · exact (fun pc e he => by obtain rfl : k = 217 := by omega
                    exact gO_217 pc e he)
  · exact (fun pc e he => by obtain rfl : k = 216 := by omega
                    exact gO_216 pc e he)
theorem gN_214_217 (k : Nat) (h1 : 214 ≤ k) (h2 : k ≤ 217) : ∀ pc e, gF k pc = some e → gChk k pc e = true := by
  rcases Nat.lt_or_ge 215 k with q | q
  · exact (gN_216_217 k (by omega) (by omega))
  · exact (gN_214_215 k (by omega) (by omega))
theorem gN_210_217 (k : Nat) (h1 : 210 ≤ k) (h2 : k ≤ 217) : ∀ pc e, gF k pc = some e → gChk k pc e = true := by
  rcases Nat.lt_or_ge 213 k with q | q
  · exact (gN_214_217 k (by omega) (by omega))
  · exact (gN_210_213 k (by omega) (by omega))
theorem gN_218_219 (k : Nat) (h1 : 218 ≤ k) (h2 : k ≤ 219) : ∀ pc e, gF k pc = some e → gChk k pc e = true := by
  rcases Nat.lt_or_ge 218 k with q | q
  · exact (fun pc e he => by obtain rfl : k = 219 := by omega
                    exact gO_219 pc e he)
  · exact (fun pc e he => by obtain rfl : k = 218 := by omega
                    exact gO_218 pc e he)
theorem gN_220_221 (k : Nat) (h1 : 220 ≤ k) (h2 : k ≤ 221) : ∀ pc e, gF k pc = some e → gChk k pc e = true := by
  rcases Nat.lt_or_ge 220 k with q | q
  · exact (fun pc e he => by obtain rfl : k = 221 := by omega
                    exact gO_221 pc e he)
  · exact (fun pc e he => by obtain rfl : k = 220 := by omega
                    exact gO_220 pc e he)
theorem gN_218_221 (k : Nat) (h1 : 218 ≤ k) (h2 : k ≤ 221) : ∀ pc e, gF k pc = some e → gChk k pc e = true := by
  rcases Nat.lt_or_ge 219 k with q | q
  · exact (gN_220_221 k (by omega) (by omega))
  · exact (gN_218_219 k (by omega) (by omega))
theorem gN_222_223 (k : Nat) (h1 : 222 ≤ k) (h2 : k ≤ 223) : ∀ pc e, gF k pc = some e → gChk k pc e = true := by
  rcases Nat.lt_or_ge 222 k with q | q
  · exact (fun pc e he => by obtain rfl : k = 223 := by omega
                    exact gO_223 pc e he)
  · exact (fun pc e he => by obtain rfl : k = 222 := by omega
                    exact gO_222 pc e he)
theorem gN_224_225 (k : Nat) (h1 : 224 ≤ k) (h2 : k ≤ 225) : ∀ pc e, gF k pc = some e → gChk k pc e = true := by
  rcases Nat.lt_or_ge 224 k with q | q
  · exact (fun pc e he => by obtain rfl : k = 225 := by omega
                    exact gO_225 pc e he)
  · exact (fun pc e he => by obtain rfl : k = 224 := by omega
                    exact gO_224 pc e he)
theorem gN_222_225 (k : Nat) (h1 : 222 ≤ k) (h2 : k ≤ 225) : ∀ pc e, gF k pc = some e → gChk k pc e = true := by
  rcases Nat.lt_or_ge 223 k with q | q
  · exact (gN_224_225 k (by omega) (by omega))
  · exact (gN_222_223 k (by omega) (by omega))
theorem gN_218_225 (k : Nat) (h1 : 218 ≤ k) (h2 : k ≤ 225) : ∀ pc e, gF k pc = some e → gChk k pc e = true := by
  rcases Nat.lt_or_ge 221 k with q | q
  · exact (gN_222_225 k (by omega) (by omega))
  · exact (gN_218_221 k (by omega) (by omega))
theorem gN_210_225 (k : Nat) (h1 : 210 ≤ k) (h2 : k ≤ 225) : ∀ pc e, gF k pc = some e → gChk k pc e = true := by
  rcases Nat.lt_or_ge 217 k with q | q
  · exact (gN_218_225 k (by omega) (by omega))
  · exact (gN_210_217 k (by omega) (by omega))
theorem gN_194_225 (k : Nat) (h1 : 194 ≤ k) (h2 : k ≤ 225) : ∀ pc e, gF k pc = some e → gChk k pc e = true := by
  rcases Nat.lt_or_ge 209 k with q | q
  · exact (gN_210_225 k (by omega) (by omega))
  · exact (gN_194_209 k (by omega) (by omega))
theorem gN_226_227 (k : Nat) (h1 : 226 ≤ k) (h2 : k ≤ 227) : ∀ pc e, gF k pc = some e → gChk k pc e = true := by
  rcases Nat.lt_or_ge 226 k with q | q
  · exact (fun pc e he => by obtain rfl : k = 227 := by omega
                    exact gO_227 pc e he)
  · exact (fun pc e he => by obtain rfl : k = 226 := by omega
                    exact gO_226 pc e he)
theorem gN_228_229 (k : Nat) (h1 : 228 ≤ k) (h2 : k ≤ 229) : ∀ pc e, gF k pc = some e → gChk k pc e = true := by
  rcases Nat.lt_or_ge 228 k with q | q
  · exact (fun pc e he => by obtain rfl : k = 229 := by omega
                    exact gO_229 pc e he)
  · exact (fun pc e he => by obtain rfl : k = 228 := by omega
                    exact gO_228 pc e he)
theorem gN_226_229 (k : Nat) (h1 : 226 ≤ k) (h2 : k ≤ 229) : ∀ pc e, gF k pc = some e → gChk k pc e = true := by
  rcases Nat.lt_or_ge 227 k with q | q
  · exact (gN_228_229 k (by omega) (by omega))
  · exact (gN_226_227 k (by omega) (by omega))
theorem gN_230_231 (k : Nat) (h1 : 230 ≤ k) (h2 : k ≤ 231) : ∀ pc e, gF k pc = some e → gChk k pc e = true := by
  rcases Nat.lt_or_ge 230 k with q | q
  · exact (fun pc e he => by obtain rfl : k = 231 := by omega
                    exact gO_231 pc e he)
  · exact (fun pc e he => by obtain rfl : k = 230 := by omega
                    exact gO_230 pc e he)
theorem gN_232_233 (k : Nat) (h1 : 232 ≤ k) (h2 : k ≤ 233) : ∀ pc e, gF k pc = some e → gChk k pc e = true := by
  rcases Nat.lt_or_ge 232 k with q | q
  · exact (fun pc e he => by obtain rfl : k = 233 := by omega
                    exact gO_233 pc e he)
  · exact (fun pc e he => by obtain rfl : k = 232 := by omega
                    exact gO_232 pc e he)
theorem gN_230_233 (k : Nat) (h1 : 230 ≤ k) (h2 : k ≤ 233) : ∀ pc e, gF k pc = some e → gChk k pc e = true := by
  rcases Nat.lt_or_ge 231 k with q | q
  · exact (gN_232_233 k (by omega) (by omega))
  · exact (gN_230_231 k (by omega) (by omega))
theorem gN_226_233 (k : Nat) (h1 : 226 ≤ k) (h2 : k ≤ 233) : ∀ pc e, gF k pc = some e → gChk k pc e = true := by
  rcases Nat.lt_or_ge 229 k with q | q
  · exact (gN_230_233 k (by omega) (by omega))
  · exact (gN_226_229 k (by omega) (by omega))
theorem gN_234_235 (k : Nat) (h1 : 234 ≤ k) (h2 : k ≤ 235) : ∀ pc e, gF k pc = some e → gChk k pc e = true := by
  rcases Nat.lt_or_ge 234 k with q | q
  · exact (fun pc e he => by obtain rfl : k = 235 := by omega
                    exact gO_235 pc e he)
  · exact (fun pc e he => by obtain rfl : k = 234 := by omega
                    exact gO_234 pc e he)
theorem gN_236_237 (k : Nat) (h1 : 236 ≤ k) (h2 : k ≤ 237) : ∀ pc e, gF k pc = some e → gChk k pc e = true := by
  rcases Nat.lt_or_ge 236 k with q | q
  · exact (fun pc e he => by obtain rfl : k = 237 := by omega
                    exact gO_237 pc e he)
  · exact (fun pc e he => by obtain rfl : k = 236 := by omega
                    exact gO_236 pc e he)
theorem gN_234_237 (k : Nat) (h1 : 234 ≤ k) (h2 : k ≤ 237) : ∀ pc e, gF k pc = some e → gChk k pc e = true := by
  rcases Nat.lt_or_ge 235 k with q | q
  · exact (gN_236_237 k (by omega) (by omega))
  · exact (gN_234_235 k (by omega) (by omega))
theorem gN_238_239 (k : Nat) (h1 : 238 ≤ k) (h2 : k ≤ 239) : ∀ pc e, gF k pc = some e → gChk k pc e = true := by
  rcases Nat.lt_or_ge 238 k with q | q
  · exact (fun pc e he => by obtain rfl : k = 239 := by omega
                    exact gO_239 pc e he)
  · exact (fun pc e he => by obtain rfl : k = 238 := by omega
                    exact gO_238 pc e he)
theorem gN_240_241 (k : Nat) (h1 : 240 ≤ k) (h2 : k ≤ 241) : ∀ pc e, gF k pc = some e → gChk k pc e = true := by
  rcases Nat.lt_or_ge 240 k with q | q
  · exact (fun pc e he => by obtain rfl : k = 241 := by omega
                    exact gO_241 pc e he)
  · exact (fun pc e he => by obtain rfl : k = 240 := by omega
                    exact gO_240 pc e he)
theorem gN_238_241 (k : Nat) (h1 : 238 ≤ k) (h2 : k ≤ 241) : ∀ pc e, gF k pc = some e → gChk k pc e = true := by
  rcases Nat.lt_or_ge 239 k with q | q
  · exact (gN_240_241 k (by omega) (by omega))
  · exact (gN_238_239 k (by omega) (by omega))
theorem gN_234_241 (k : Nat) (h1 : 234 ≤ k) (h2 : k ≤ 241) : ∀ pc e, gF k pc = some e → gChk k pc e = true := by
  rcases Nat.lt_or_ge 237 k with q | q
  · exact (gN_238_241 k (by omega) (by omega))
  · exact (gN_234_237 k (by omega) (by omega))
theorem gN_226_241 (k : Nat) (h1 : 226 ≤ k) (h2 : k ≤ 241) : ∀ pc e, gF k pc = some e → gChk k pc e = true := by
  rcases Nat.lt_or_ge 233 k with q | q
  · exact (gN_234_241 k (by omega) (by omega))
  · exact (gN_226_233 k (by omega) (by omega))
theorem gN_242_243 (k : Nat) (h1 : 242 ≤ k) (h2 : k ≤ 243) : ∀ pc e, gF k pc = some e → gChk k pc e = true := by
  rcases Nat.lt_or_ge 242 k with q | q
  · exact (fun pc e he => by obtain rfl : k = 243 := by omega
                    exact gO_243 pc e he)
  · exact (fun pc e he => by obtain rfl : k = 242 := by omega
                    exact gO_242 pc e he)
theorem gN_244_245 (k : Nat) (h1 : 244 ≤ k) (h2 : k ≤ 245) : ∀ pc e, gF k pc = some e → gChk k pc e = true := by
  rcases Nat.lt_or_ge 244 k with q | q
  · exact (fun pc e he => by obtain rfl : k = 245 := by omega
                    exact gO_245 pc e he)
  · exact (fun pc e he => by obtain rfl : k = 244 := by omega
                    exact gO_244 pc e he)
theorem gN_242_245 (k : Nat) (h1 : 242 ≤ k) (h2 : k ≤ 245) : ∀ pc e, gF k pc = some e → gChk k pc e = true := by
  rcases Nat.lt_or_ge 243 k with q | q
  · exact (gN_244_245 k (by omega) (by omega))
  · exact (gN_242_243 k (by omega) (by omega))
theorem gN_246_247 (k : Nat) (h1 : 246 ≤ k) (h2 : k ≤ 247) : ∀ pc e, gF k pc = some e → gChk k pc e = true := by
  rcases Nat.lt_or_ge 246 k with q | q
  · exact (fun pc e he => by obtain rfl : k = 247 := by omega
                    exact gO_247 pc e he)
  · exact (fun pc e he => by obtain rfl : k = 246 := by omega
                    exact gO_246 pc e he)
theorem gN_248_249 (k : Nat) (h1 : 248 ≤ k) (h2 : k ≤ 249) : ∀ pc e, gF k pc = some e → gChk k pc e = true := by
  rcases Nat.lt_or_ge 248 k with q | q
  · exact (fun pc e he => by obtain rfl : k = 249 := by omega
                    exact gO_249 pc e he)
  · exact (fun pc e he => by obtain rfl : k = 248 := by omega
                    exact gO_248 pc e he)
theorem gN_246_249 (k : Nat) (h1 : 246 ≤ k) (h2 : k ≤ 249) : ∀ pc e, gF k pc = some e → gChk k pc e = true := by
  rcases Nat.lt_or_ge 247 k with q | q
  · exact (gN_248_249 k (by omega) (by omega))
  · exact (gN_246_247 k (by omega) (by omega))
theorem gN_242_249 (k : Nat) (h1 : 242 ≤ k) (h2 : k ≤ 249) : ∀ pc e, gF k pc = some e → gChk k pc e = true := by
  rcases Nat.lt_or_ge 245 k with q | q
  · exact (gN_246_249 k (by omega) (by omega))
  · exact (gN_242_245 k (by omega) (by omega))
theorem gN_250_251 (k : Nat) (h1 : 250 ≤ k) (h2 : k ≤ 251) : ∀ pc e, gF k pc = some e → gChk k pc e = true := by
  rcases Nat.lt_or_ge 250 k with q | q
  · exact (fun pc e he => by obtain rfl : k = 251 := by omega
                    exact gO_251 pc e he)
  · exact (fun pc e he => by obtain rfl : k = 250 := by omega
                    exact gO_250 pc e he)
theorem gN_252_253 (k : Nat) (h1 : 252 ≤ k) (h2 : k ≤ 253) : ∀ pc e, gF k pc = some e → gChk k pc e = true := by
  rcases Nat.lt_or_ge 252 k with q | q
  · exact (fun pc e he => by obtain rfl : k = 253 := by omega
                    exact gO_253 pc e he)
  · exact (fun pc e he => by obtain rfl : k = 252 := by omega
                    exact gO_252 pc e he)
theorem gN_250_253 (k : Nat) (h1 : 250 ≤ k) (h2 : k ≤ 253) : ∀ pc e, gF k pc = some e → gChk k pc e = true := by
  rcases Nat.lt_or_ge 251 k with q | q
  · exact (gN_252_253 k (by omega) (by omega))
  · exact (gN_250_251 k (by omega) (by omega))
theorem gN_254_255 (k : Nat) (h1 : 254 ≤ k) (h2 : k ≤ 255) : ∀ pc e, gF k pc = some e → gChk k pc e = true := by
  rcases Nat.lt_or_ge 254 k with q | q
  · exact (fun pc e he => by obtain rfl : k = 255 := by omega
                    exact gO_255 pc e he)
  · exact (fun pc e he => by obtain rfl : k = 254 := by omega
                    exact gO_254 pc e he)
theorem gN_256_257 (k : Nat) (h1 : 256 ≤ k) (h2 : k ≤ 257) : ∀ pc e, gF k pc = some e → gChk k pc e = true := by
  rcases Nat.lt_or_ge 256 k with q | q
  · exact (fun pc e he => by obtain rfl : k = 257 := by omega
                    exact gO_257 pc e he)
  · exact (fun pc e he => by obtain rfl : k = 256 := by omega
                    exact gO_256 pc e he)
theorem gN_254_257 (k : Nat) (h1 : 254 ≤ k) (h2 : k ≤ 257) : ∀ pc e, gF k pc = some e → gChk k pc e = true := by
  rcases Nat.lt_or_ge 255 k with q | q
  · exact (gN_256_257 k (by omega) (by omega))
  · exact (gN_254_255 k (by omega) (by omega))
theorem gN_250_257 (k : Nat) (h1 : 250 ≤ k) (h2 : k ≤ 257) : ∀ pc e, gF k pc = some e → gChk k pc e = true := by
  rcases Nat.lt_or_ge 253 k with q | q
  · exact (gN_254_257 k (by omega) (by omega))
  · exact (gN_250_253 k (by omega) (by omega))
theorem gN_242_257 (k : Nat) (h1 : 242 ≤ k) (h2 : k ≤ 257) : ∀ pc e, gF k pc = some e → gChk k pc e = true := by
  rcases Nat.lt_or_ge 249 k with q | q
  · exact (gN_250_257 k (by omega) (by omega))
  · exact (gN_242_249 k (by omega) (by omega))
theorem gN_226_257 (k : Nat) (h1 : 226 ≤ k) (h2 : k ≤ 257) : ∀ pc e, gF k pc = some e → gChk k pc e = true := by
  rcases Nat.lt_or_ge 241 k with q | q
  · exact (gN_242_257 k (by omega) (by omega))
  · exact (gN_226_241 k (by omega) (by omega))
theorem gN_194_257 (k : Nat) (h1 : 194 ≤ k) (h2 : k ≤ 257) : ∀ pc e, gF k pc = some e → gChk k pc e = true := by
  rcases Nat.lt_or_ge 225 k with q | q
  · exact (gN_226_257 k (by omega) (by omega))
  · exact (gN_194_225 k (by omega) (by omega))
theorem gN_129_257 (k : Nat) (h1 : 129 ≤ k) (h2 : k ≤ 257) : ∀ pc e, gF k pc = some e → gChk k pc e = true := by
  rcases Nat.lt_or_ge 193 k with q | q
  · exact (gN_194_257 k (by omega) (by omega))
  · exact (gN_129_193 k (by omega) (by omega))
theorem gN_0_257 (k : Nat) (h1 : 0 ≤ k) (h2 : k ≤ 257) : ∀ pc e, gF k pc = some e → gChk k pc e = true := by
  rcases Nat.lt_or_ge 128 k with q | q
  · exact (gN_129_257 k (by omega) (by omega))
  · exact (gN_0_128 k (by omega) (by omega))
theorem gF_lt {k pc : Nat} {e : gE} (h : gF k pc = some e) : k < 258 := by
  unfold gF at h
  cases hb : Nat.ble k 257 with
  | true => exact Nat.lt_succ_of_le (Nat.le_of_ble_eq_true hb)
  | false => rw [hb] at h; exact absurd h (by simp)
theorem gF_ok {k pc : Nat} {e : gE} (h : gF k pc = some e) : ∃ (i : Instr) (len : Nat), decode (gCode k) pc = .ok (i, len) ∧ gCk k pc len i e = true := by
  have h1 := gN_0_257 k (Nat.zero_le _) (Nat.le_of_lt_succ (gF_lt h)) pc e h
  unfold gChk at h1
  cases hd : decode (gCode k) pc with
  | error x => rw [hd] at h1; exact absurd h1 (by simp)
  | ok q => rw [hd] at h1; exact ⟨q.1, q.2, rfl, h1⟩
