theorem gN_0_1 (k : Nat) (h1 : 0 ≤ k) (h2 : k ≤ 1) : ∀ pc e, gF k pc = some e → gChk k pc e = true := by
  rcases Nat.lt_or_ge 0 k with q | q
  · exact ((show 1 = k by omega) ▸ gO_1)
  · exact ((show 0 = k by omega) ▸ gO_0)
theorem gN_0_2 (k : Nat) (h1 : 0 ≤ k) (h2 : k ≤ 2) : ∀ pc e, gF k pc = some e → gChk k pc e = true := by
  rcases Nat.lt_or_ge 1 k with q | q
  · exact ((show 2 = k by omega) ▸ gO_2)
  · exact (gN_0_1 k (by omega) (by omega))
theorem gN_3_4 (k : Nat) (h1 : 3 ≤ k) (h2 : k ≤ 4) : ∀ pc e, gF k pc = some e → gChk k pc e = true := by
  rcases Nat.lt_or_ge 3 k with q | q
  · exact ((show 4 = k by omega) ▸ gO_4)
  · exact ((show 3 = k by omega) ▸ gO_3)
theorem gN_0_4 (k : Nat) (h1 : 0 ≤ k) (h2 : k ≤ 4) : ∀ pc e, gF k pc = some e → gChk k pc e = true := by
  rcases Nat.lt_or_ge 2 k with q | q
  · exact (gN_3_4 k (by omega) (by omega))
  · exact (gN_0_2 k (by omega) (by omega))
theorem gN_5_6 (k : Nat) (h1 : 5 ≤ k) (h2 : k ≤ 6) : ∀ pc e, gF k pc = some e → gChk k pc e = true := by
  rcases Nat.lt_or_ge 5 k with q | q
  · exact ((show 6 = k by omega) ▸ gO_6)
  · exact ((show 5 = k by omega) ▸ gO_5)
theorem gN_7_8 (k : Nat) (h1 : 7 ≤ k) (h2 : k ≤ 8) : ∀ pc e, gF k pc = some e → gChk k pc e = true := by
  rcases Nat.lt_or_ge 7 k with q | q
  · exact ((show 8 = k by omega) ▸ gO_8)
  · exact ((show 7 = k by omega) ▸ gO_7)
theorem gN_5_8 (k : Nat) (h1 : 5 ≤ k) (h2 : k ≤ 8) : ∀ pc e, gF k pc = some e → gChk k pc e = true := by
  rcases Nat.lt_or_ge 6 k with q | q
  · exact (gN_7_8 k (by omega) (by omega))
  · exact (gN_5_6 k (by omega) (by omega))
theorem gN_0_8 (k : Nat) (h1 : 0 ≤ k) (h2 : k ≤ 8) : ∀ pc e, gF k pc = some e → gChk k pc e = true := by
  rcases Nat.lt_or_ge 4 k with q | q
  · exact (gN_5_8 k (by omega) (by omega))
  · exact (gN_0_4 k (by omega) (by omega))
theorem gN_9_10 (k : Nat) (h1 : 9 ≤ k) (h2 : k ≤ 10) : ∀ pc e, gF k pc = some e → gChk k pc e = true := by
  rcases Nat.lt_or_ge 9 k with q | q
  · exact ((show 10 = k by omega) ▸ gO_10)
  · exact ((show 9 = k by omega) ▸ gO_9)
theorem gN_11_12 (k : Nat) (h1 : 11 ≤ k) (h2 : k ≤ 12) : ∀ pc e, gF k pc = some e → gChk k pc e = true := by
  rcases Nat.lt_or_ge 11 k with q | q
  · exact ((show 12 = k by omega) ▸ gO_12)
  · exact ((show 11 = k by omega) ▸ gO_11)
theorem gN_9_12 (k : Nat) (h1 : 9 ≤ k) (h2 : k ≤ 12) : ∀ pc e, gF k pc = some e → gChk k pc e = true := by
  rcases Nat.lt_or_ge 10 k with q | q
  · exact (gN_11_12 k (by omega) (by omega))
  · exact (gN_9_10 k (by omega) (by omega))
theorem gN_13_14 (k : Nat) (h1 : 13 ≤ k) (h2 : k ≤ 14) : ∀ pc e, gF k pc = some e → gChk k pc e = true := by
  rcases Nat.lt_or_ge 13 k with q | q
  · exact ((show 14 = k by omega) ▸ gO_14)
  · exact ((show 13 = k by omega) ▸ gO_13)
theorem gN_15_16 (k : Nat) (h1 : 15 ≤ k) (h2 : k ≤ 16) : ∀ pc e, gF k pc = some e → gChk k pc e = true := by
  rcases Nat.lt_or_ge 15 k with q | q
  · exact ((show 16 = k by omega) ▸ gO_16)
  · exact ((show 15 = k by omega) ▸ gO_15)
theorem gN_13_16 (k : Nat) (h1 : 13 ≤ k) (h2 : k ≤ 16) : ∀ pc e, gF k pc = some e → gChk k pc e = true := by
  rcases Nat.lt_or_ge 14 k with q | q
  · exact (gN_15_16 k (by omega) (by omega))
  · exact (gN_13_14 k (by omega) (by omega))
theorem gN_9_16 (k : Nat) (h1 : 9 ≤ k) (h2 : k ≤ 16) : ∀ pc e, gF k pc = some e → gChk k pc e = true := by
  rcases Nat.lt_or_ge 12 k with q | q
  · exact (gN_13_16 k (by omega) (by omega))
  · exact (gN_9_12 k (by omega) (by omega))
theorem gN_0_16 (k : Nat) (h1 : 0 ≤ k) (h2 : k ≤ 16) : ∀ pc e, gF k pc = some e → gChk k pc e = true := by
  rcases Nat.lt_or_ge 8 k with q | q
  · exact (gN_9_16 k (by omega) (by omega))
  · exact (gN_0_8 k (by omega) (by omega))
theorem gN_17_18 (k : Nat) (h1 : 17 ≤ k) (h2 : k ≤ 18) : ∀ pc e, gF k pc = some e → gChk k pc e = true := by
  rcases Nat.lt_or_ge 17 k with q | q
  · exact ((show 18 = k by omega) ▸ gO_18)
  · exact ((show 17 = k by omega) ▸ gO_17)
theorem gN_19_20 (k : Nat) (h1 : 19 ≤ k) (h2 : k ≤ 20) : ∀ pc e, gF k pc = some e → gChk k pc e = true := by
  rcases Nat.lt_or_ge 19 k with q | q
  · exact ((show 20 = k by omega) ▸ gO_20)
  · exact ((show 19 = k by omega) ▸ gO_19)
theorem gN_17_20 (k : Nat) (h1 : 17 ≤ k) (h2 : k ≤ 20) : ∀ pc e, gF k pc = some e → gChk k pc e = true := by
  rcases Nat.lt_or_ge 18 k with q | q
  · exact (gN_19_20 k (by omega) (by omega))
  · exact (gN_17_18 k (by omega) (by omega))
theorem gN_21_22 (k : Nat) (h1 : 21 ≤ k) (h2 : k ≤ 22) : ∀ pc e, gF k pc = some e → gChk k pc e = true := by
  rcases Nat.lt_or_ge 21 k with q | q
  · exact ((show 22 = k by omega) ▸ gO_22)
  · exact ((show 21 = k by omega) ▸ gO_21)
theorem gN_23_24 (k : Nat) (h1 : 23 ≤ k) (h2 : k ≤ 24) : ∀ pc e, gF k pc = some e → gChk k pc e = true := by
  rcases Nat.lt_or_ge 23 k with q | q
  · exact ((show 24 = k by omega) ▸ gO_24)
  · exact ((show 23 = k by omega) ▸ gO_23)
theorem gN_21_24 (k : Nat) (h1 : 21 ≤ k) (h2 : k ≤ 24) : ∀ pc e, gF k pc = some e → gChk k pc e = true := by
  rcases Nat.lt_or_ge 22 k with q | q
  · exact (gN_23_24 k (by omega) (by omega))
  · exact (gN_21_22 k (by omega) (by omega))
theorem gN_17_24 (k : Nat) (h1 : 17 ≤ k) (h2 : k ≤ 24) : ∀ pc e, gF k pc = some e → gChk k pc e = true := by
  rcases Nat.lt_or_ge 20 k with q | q
  · exact (gN_21_24 k (by omega) (by omega))
  · exact (gN_17_20 k (by omega) (by omega))
theorem gN_25_26 (k : Nat) (h1 : 25 ≤ k) (h2 : k ≤ 26) : ∀ pc e, gF k pc = some e → gChk k pc e = true := by
  rcases Nat.lt_or_ge 25 k with q | q
  · exact ((show 26 = k by omega) ▸ gO_26)
  · exact ((show 25 = k by omega) ▸ gO_25)
theorem gN_27_28 (k : Nat) (h1 : 27 ≤ k) (h2 : k ≤ 28) : ∀ pc e, gF k pc = some e → gChk k pc e = true := by
  rcases Nat.lt_or_ge 27 k with q | q
  · exact ((show 28 = k by omega) ▸ gO_28)
  · exact ((show 27 = k by omega) ▸ gO_27)
theorem gN_25_28 (k : Nat) (h1 : 25 ≤ k) (h2 : k ≤ 28) : ∀ pc e, gF k pc = some e → gChk k pc e = true := by
  rcases Nat.lt_or_ge 26 k with q | q
  · exact (gN_27_28 k (by omega) (by omega))
  · exact (gN_25_26 k (by omega) (by omega))
theorem gN_29_30 (k : Nat) (h1 : 29 ≤ k) (h2 : k ≤ 30) : ∀ pc e, gF k pc = some e → gChk k pc e = true := by
  rcases Nat.lt_or_ge 29 k with q | q
  · exact ((show 30 = k by omega) ▸ gO_30)
  · exact ((show 29 = k by omega) ▸ gO_29)
theorem gN_31_32 (k : Nat) (h1 : 31 ≤ k) (h2 : k ≤ 32) : ∀ pc e, gF k pc = some e → gChk k pc e = true := by
  rcases Nat.lt_or_ge 31 k with q | q
  · exact ((show 32 = k by omega) ▸ gO_32)
  · exact ((show 31 = k by omega) ▸ gO_31)
theorem gN_29_32 (k : Nat) (h1 : 29 ≤ k) (h2 : k ≤ 32) : ∀ pc e, gF k pc = some e → gChk k pc e = true := by
  rcases Nat.lt_or_ge 30 k with q | q
  · exact (gN_31_32 k (by omega) (by omega))
  · exact (gN_29_30 k (by omega) (by omega))
theorem gN_25_32 (k : Nat) (h1 : 25 ≤ k) (h2 : k ≤ 32) : ∀ pc e, gF k pc = some e → gChk k pc e = true := by
  rcases Nat.lt_or_ge 28 k with q | q
  · exact (gN_29_32 k (by omega) (by omega))
  · exact (gN_25_28 k (by omega) (by omega))
theorem gN_17_32 (k : Nat) (h1 : 17 ≤ k) (h2 : k ≤ 32) : ∀ pc e, gF k pc = some e → gChk k pc e = true := by
  rcases Nat.lt_or_ge 24 k with q | q
  · exact (gN_25_32 k (by omega) (by omega))
  · exact (gN_17_24 k (by omega) (by omega))
theorem gN_0_32 (k : Nat) (h1 : 0 ≤ k) (h2 : k ≤ 32) : ∀ pc e, gF k pc = some e → gChk k pc e = true := by
  rcases Nat.lt_or_ge 16 k with q | q
  · exact (gN_17_32 k (by omega) (by omega))
  · exact (gN_0_16 k (by omega) (by omega))
theorem gN_33_34 (k : Nat) (h1 : 33 ≤ k) (h2 : k ≤ 34) : ∀ pc e, gF k pc = some e → gChk k pc e = true := by
  rcases Nat.lt_or_ge 33 k with q | q
  · exact ((show 34 = k by omega) ▸ gO_34)
  · exact ((show 33 = k by omega) ▸ gO_33)
theorem gN_35_36 (k : Nat) (h1 : 35 ≤ k) (h2 : k ≤ 36) : ∀ pc e, gF k pc = some e → gChk k pc e = true := by
  rcases Nat.lt_or_ge 35 k with q | q
  · exact ((show 36 = k by omega) ▸ gO_36)
  · exact ((show 35 = k by omega) ▸ gO_35)
theorem gN_33_36 (k : Nat) (h1 : 33 ≤ k) (h2 : k ≤ 36) : ∀ pc e, gF k pc = some e → gChk k pc e = true := by
  rcases Nat.lt_or_ge 34 k with q | q
  · exact (gN_35_36 k (by omega) (by omega))
  · exact (gN_33_34 k (by omega) (by omega))
theorem gN_37_38 (k : Nat) (h1 : 37 ≤ k) (h2 : k ≤ 38) : ∀ pc e, gF k pc = some e → gChk k pc e = true := by
  rcases Nat.lt_or_ge 37 k with q | q
  · exact ((show 38 = k by omega) ▸ gO_38)
  · exact ((show 37 = k by omega) ▸ gO_37)
theorem gN_39_40 (k : Nat) (h1 : 39 ≤ k) (h2 : k ≤ 40) : ∀ pc e, gF k pc = some e → gChk k pc e = true := by
  rcases Nat.lt_or_ge 39 k with q | q
  · exact ((show 40 = k by omega) ▸ gO_40)
  · exact ((show 39 = k by omega) ▸ gO_39)
theorem gN_37_40 (k : Nat) (h1 : 37 ≤ k) (h2 : k ≤ 40) : ∀ pc e, gF k pc = some e → gChk k pc e = true := by
  rcases Nat.lt_or_ge 38 k with q | q
  · exact (gN_39_40 k (by omega) (by omega))
  · exact (gN_37_38 k (by omega) (by omega))
theorem gN_33_40 (k : Nat) (h1 : 33 ≤ k) (h2 : k ≤ 40) : ∀ pc e, gF k pc = some e → gChk k pc e = true := by
  rcases Nat.lt_or_ge 36 k with q | q
  · exact (gN_37_40 k (by omega) (by omega))
  · exact (gN_33_36 k (by omega) (by omega))
theorem gN_41_42 (k : Nat) (h1 : 41 ≤ k) (h2 : k ≤ 42) : ∀ pc e, gF k pc = some e → gChk k pc e = true := by
  rcases Nat.lt_or_ge 41 k with q | q
  · exact ((show 42 = k by omega) ▸ gO_42)
  · exact ((show 41 = k by omega) ▸ gO_41)
theorem gN_43_44 (k : Nat) (h1 : 43 ≤ k) (h2 : k ≤ 44) : ∀ pc e, gF k pc = some e → gChk k pc e = true := by
  rcases Nat.lt_or_ge 43 k with q | q
  · exact ((show 44 = k by omega) ▸ gO_44)
  · exact ((show 43 = k by omega) ▸ gO_43)
theorem gN_41_44 (k : Nat) (h1 : 41 ≤ k) (h2 : k ≤ 44) : ∀ pc e, gF k pc = some e → gChk k pc e = true := by
  rcases Nat.lt_or_ge 42 k with q | q
  · exact (gN_43_44 k (by omega) (by omega))
  · exact (gN_41_42 k (by omega) (by omega))
theorem gN_45_46 (k : Nat) (h1 : 45 ≤ k) (h2 : k ≤ 46) : ∀ pc e, gF k pc = some e → gChk k pc e = true := by
  rcases Nat.lt_or_ge 45 k with q | q
  · exact ((show 46 = k by omega) ▸ gO_46)
  · exact ((show 45 = k by omega) ▸ gO_45)
theorem gN_47_48 (k : Nat) (h1 : 47 ≤ k) (h2 : k ≤ 48) : ∀ pc e, gF k pc = some e → gChk k pc e = true := by
  rcases Nat.lt_or_ge 47 k with q | q
  · exact ((show 48 = k by omega) ▸ gO_48)
  · exact ((show 47 = k by omega) ▸ gO_47)
theorem gN_45_48 (k : Nat) (h1 : 45 ≤ k) (h2 : k ≤ 48) : ∀ pc e, gF k pc = some e → gChk k pc e = true := by
  rcases Nat.lt_or_ge 46 k with q | q
  · exact (gN_47_48 k (by omega) (by omega))
  · exact (gN_45_46 k (by omega) (by omega))
theorem gN_41_48 (k : Nat) (h1 : 41 ≤ k) (h2 : k ≤ 48) : ∀ pc e, gF k pc = some e → gChk k pc e = true := by
  rcases Nat.lt_or_ge 44 k with q | q
  · exact (gN_45_48 k (by omega) (by omega))
  · exact (gN_41_44 k (by omega) (by omega))
theorem gN_33_48 (k : Nat) (h1 : 33 ≤ k) (h2 : k ≤ 48) : ∀ pc e, gF k pc = some e → gChk k pc e = true := by
  rcases Nat.lt_or_ge 40 k with q | q
  · exact (gN_41_48 k (by omega) (by omega))
  · exact (gN_33_40 k (by omega) (by omega))
theorem gN_49_50 (k : Nat) (h1 : 49 ≤ k) (h2 : k ≤ 50) : ∀ pc e, gF k pc = some e → gChk k pc e = true := by
  rcases Nat.lt_or_ge 49 k with q | q
  · exact ((show 50 = k by omega) ▸ gO_50)
  · exact ((show 49 = k by omega) ▸ gO_49)
theorem gN_51_52 (k : Nat) (h1 : 51 ≤ k) (h2 : k ≤ 52) : ∀ pc e, gF k pc = some e → gChk k pc e = true := by
  rcases Nat.lt_or_ge 51 k with q | q
  · exact ((show 52 = k by omega) ▸ gO_52)
  · exact ((show 51 = k by omega) ▸ gO_51)
theorem gN_49_52 (k : Nat) (h1 : 49 ≤ k) (h2 : k ≤ 52) : ∀ pc e, gF k pc = some e → gChk k pc e = true := by
  rcases Nat.lt_or_ge 50 k with q | q
  · exact (gN_51_52 k (by omega) (by omega))
  · exact (gN_49_50 k (by omega) (by omega))
theorem gN_53_54 (k : Nat) (h1 : 53 ≤ k) (h2 : k ≤ 54) : ∀ pc e, gF k pc = some e → gChk k pc e = true := by
  rcases Nat.lt_or_ge 53 k with q | q
  · exact ((show 54 = k by omega) ▸ gO_54)
  · exact ((show 53 = k by omega) ▸ gO_53)
theorem gN_55_56 (k : Nat) (h1 : 55 ≤ k) (h2 : k ≤ 56) : ∀ pc e, gF k pc = some e → gChk k pc e = true := by
  rcases Nat.lt_or_ge 55 k with q | q
  · exact ((show 56 = k by omega) ▸ gO_56)
  · exact ((show 55 = k by omega) ▸ gO_55)
theorem gN_53_56 (k : Nat) (h1 : 53 ≤ k) (h2 : k ≤ 56) : ∀ pc e, gF k pc = some e → gChk k pc e = true := by
  rcases Nat.lt_or_ge 54 k with q | q
  · exact (gN_55_56 k (by omega) (by omega))
  · exact (gN_53_54 k (by omega) (by omega))
theorem gN_49_56 (k : Nat) (h1 : 49 ≤ k) (h2 : k ≤ 56) : ∀ pc e, gF k pc = some e → gChk k pc e = true := by
  rcases Nat.lt_or_ge 52 k with q | q
  · exact (gN_53_56 k (by omega) (by omega))
  · exact (gN_49_52 k (by omega) (by omega))
theorem gN_57_58 (k : Nat) (h1 : 57 ≤ k) (h2 : k ≤ 58) : ∀ pc e, gF k pc = some e → gChk k pc e = true := by
  rcases Nat.lt_or_ge 57 k with q | q
  · exact ((show 58 = k by omega) ▸ gO_58)
  · exact ((show 57 = k by omega) ▸ gO_57)
theorem gN_59_60 (k : Nat) (h1 : 59 ≤ k) (h2 : k ≤ 60) : ∀ pc e, gF k pc = some e → gChk k pc e = true := by
  rcases Nat.lt_or_ge 59 k with q | q
  · exact ((show 60 = k by omega) ▸ gO_60)
  · exact ((show 59 = k by omega) ▸ gO_59)
theorem gN_57_60 (k : Nat) (h1 : 57 ≤ k) (h2 : k ≤ 60) : ∀ pc e, gF k pc = some e → gChk k pc e = true := by
  rcases Nat.lt_or_ge 58 k with q | q
  · exact (gN_59_60 k (by omega) (by omega))
  · exact (gN_57_58 k (by omega) (by omega))
theorem gN_61_62 (k : Nat) (h1 : 61 ≤ k) (h2 : k ≤ 62) : ∀ pc e, gF k pc = some e → gChk k pc e = true := by
  rcases Nat.lt_or_ge 61 k with q | q
  · exact ((show 62 = k by omega) ▸ gO_62)
  · exact ((show 61 = k by omega) ▸ gO_61)
theorem gN_63_64 (k : Nat) (h1 : 63 ≤ k) (h2 : k ≤ 64) : ∀ pc e, gF k pc = some e → gChk k pc e = true := by
  rcases Nat.lt_or_ge 63 k with q | q
  · exact ((show 64 = k by omega) ▸ gO_64)
  · exact ((show 63 = k by omega) ▸ gO_63)
theorem gN_61_64 (k : Nat) (h1 : 61 ≤ k) (h2 : k ≤ 64) : ∀ pc e, gF k pc = some e → gChk k pc e = true := by
  rcases Nat.lt_or_ge 62 k with q | q
  · exact (gN_63_64 k (by omega) (by omega))
  · exact (gN_61_62 k (by omega) (by omega))
theorem gN_57_64 (k : Nat) (h1 : 57 ≤ k) (h2 : k ≤ 64) : ∀ pc e, gF k pc = some e → gChk k pc e = true := by
  rcases Nat.lt_or_ge 60 k with q | q
  · exact (gN_61_64 k (by omega) (by omega))
  · exact (gN_57_60 k (by omega) (by omega))
theorem gN_49_64 (k : Nat) (h1 : 49 ≤ k) (h2 : k ≤ 64) : ∀ pc e, gF k pc = some e → gChk k pc e = true := by
  rcases Nat.lt_or_ge 56 k with q | q
  · exact (gN_57_64 k (by omega) (by omega))
  · exact (gN_49_56 k (by omega) (by omega))
theorem gN_33_64 (k : Nat) (h1 : 33 ≤ k) (h2 : k ≤ 64) : ∀ pc e, gF k pc = some e → gChk k pc e = true := by
  rcases Nat.lt_or_ge 48 k with q | q
  · exact (gN_49_64 k (by omega) (by omega))
  · exact (gN_33_48 k (by omega) (by omega))
theorem gN_0_64 (k : Nat) (h1 : 0 ≤ k) (h2 : k ≤ 64) : ∀ pc e, gF k pc = some e → gChk k pc e = true := by
  rcases Nat.lt_or_ge 32 k with q | q
  · exact (gN_33_64 k (by omega) (by omega))
  · exact (gN_0_32 k (by omega) (by omega))
theorem gN_65_66 (k : Nat) (h1 : 65 ≤ k) (h2 : k ≤ 66) : ∀ pc e, gF k pc = some e → gChk k pc e = true := by
  rcases Nat.lt_or_ge 65 k with q | q
  · exact ((show 66 = k by omega) ▸ gO_66)
  · exact ((show 65 = k by omega) ▸ gO_65)
theorem gN_67_68 (k : Nat) (h1 : 67 ≤ k) (h2 : k ≤ 68) : ∀ pc e, gF k pc = some e → gChk k pc e = true := by
  rcases Nat.lt_or_ge 67 k with q | q
  · exact ((show 68 = k by omega) ▸ gO_68)
  · exact ((show 67 = k by omega) ▸ gO_67)
theorem gN_65_68 (k : Nat) (h1 : 65 ≤ k) (h2 : k ≤ 68) : ∀ pc e, gF k pc = some e → gChk k pc e = true := by
  rcases Nat.lt_or_ge 66 k with q | q
  · exact (gN_67_68 k (by omega) (by omega))
  · exact (gN_65_66 k (by omega) (by omega))
theorem gN_69_70 (k : Nat) (h1 : 69 ≤ k) (h2 : k ≤ 70) : ∀ pc e, gF k pc = some e → gChk k pc e = true := by
  rcases Nat.lt_or_ge 69 k with q | q
  · exact ((show 70 = k by omega) ▸ gO_70)
  · exact ((show 69 = k by omega) ▸ gO_69)
theorem gN_71_72 (k : Nat) (h1 : 71 ≤ k) (h2 : k ≤ 72) : ∀ pc e, gF k pc = some e → gChk k pc e = true := by
  rcases Nat.lt_or_ge 71 k with q | q
  · exact ((show 72 = k by omega) ▸ gO_72)
  · exact ((show 71 = k by omega) ▸ gO_71)
theorem gN_69_72 (k : Nat) (h1 : 69 ≤ k) (h2 : k ≤ 72) : ∀ pc e, gF k pc = some e → gChk k pc e = true := by
  rcases Nat.lt_or_ge 70 k with q | q
  · exact (gN_71_72 k (by omega) (by omega))
  · exact (gN_69_70 k (by omega) (by omega))
theorem gN_65_72 (k : Nat) (h1 : 65 ≤ k) (h2 : k ≤ 72) : ∀ pc e, gF k pc = some e → gChk k pc e = true := by
  rcases Nat.lt_or_ge 68 k with q | q
  · exact (gN_69_72 k (by omega) (by omega))
  · exact (gN_65_68 k (by omega) (by omega))
theorem gN_73_74 (k : Nat) (h1 : 73 ≤ k) (h2 : k ≤ 74) : ∀ pc e, gF k pc = some e → gChk k pc e = true := by
  rcases Nat.lt_or_ge 73 k with q | q
  · exact ((show 74 = k by omega) ▸ gO_74)
  · exact ((show 73 = k by omega) ▸ gO_73)
theorem gN_75_76 (k : Nat) (h1 : 75 ≤ k) (h2 : k ≤ 76) : ∀ pc e, gF k pc = some e → gChk k pc e = true := by
  rcases Nat.lt_or_ge 75 k with q | q
  · exact ((show 76 = k by omega) ▸ gO_76)
  · exact ((show 75 = k by omega) ▸ gO_75)
theorem gN_73_76 (k : Nat) (h1 : 73 ≤ k) (h2 : k ≤ 76) : ∀ pc e, gF k pc = some e → gChk k pc e = true := by
  rcases Nat.lt_or_ge 74 k with q | q
  · exact (gN_75_76 k (by omega) (by omega))
  · exact (gN_73_74 k (by omega) (by omega))
theorem gN_77_78 (k : Nat) (h1 : 77 ≤ k) (h2 : k ≤ 78) : ∀ pc e, gF k pc = some e → gChk k pc e = true := by
  rcases Nat.lt_or_ge 77 k with q | q
  · exact ((show 78 = k by omega) ▸ gO_78)
  · exact ((show 77 = k by omega) ▸ gO_77)
theorem gN_79_80 (k : Nat) (h1 : 79 ≤ k) (h2 : k ≤ 80) : ∀ pc e, gF k pc = some e → gChk k pc e = true := by
  rcases Nat.lt_or_ge 79 k with q | q
  · exact ((show 80 = k by omega) ▸ gO_80)
  · exact ((show 79 = k by omega) ▸ gO_79)
theorem gN_77_80 (k : Nat) (h1 : 77 ≤ k) (h2 : k ≤ 80) : ∀ pc e, gF k pc = some e → gChk k pc e = true := by
  rcases Nat.lt_or_ge 78 k with q | q
  · exact (gN_79_80 k (by omega) (by omega))
  · exact (gN_77_78 k (by omega) (by omega))
theorem gN_73_80 (k : Nat) (h1 : 73 ≤ k) (h2 : k ≤ 80) : ∀ pc e, gF k pc = some e → gChk k pc e = true := by
  rcases Nat.lt_or_ge 76 k with q | q
  · exact (gN_77_80 k (by omega) (by omega))
  · exact (gN_73_76 k (by omega) (by omega))
theorem gN_65_80 (k : Nat) (h1 : 65 ≤ k) (h2 : k ≤ 80) : ∀ pc e, gF k pc = some e → gChk k pc e = true := by
  rcases Nat.lt_or_ge 72 k with q | q
  · exact (gN_73_80 k (by omega) (by omega))
  · exact (gN_65_72 k (by omega) (by omega))
theorem gN_81_82 (k : Nat) (h1 : 81 ≤ k) (h2 : k ≤ 82) : ∀ pc e, gF k pc = some e → gChk k pc e = true := by
  rcases Nat.lt_or_ge 81 k with q | q
  · exact ((show 82 = k by omega) ▸ gO_82)
  · exact ((show 81 = k by omega) ▸ gO_81)
theorem gN_83_84 (k : Nat) (h1 : 83 ≤ k) (h2 : k ≤ 84) : ∀ pc e, gF k pc = some e → gChk k pc e = true := by
  rcases Nat.lt_or_ge 83 k with q | q
  · exact ((show 84 = k by omega) ▸ gO_84)
  · exact ((show 83 = k by omega) ▸ gO_83)
theorem gN_81_84 (k : Nat) (h1 : 81 ≤ k) (h2 : k ≤ 84) : ∀ pc e, gF k pc = some e → gChk k pc e = true := by
  rcases Nat.lt_or_ge 82 k with q | q
  · exact (gN_83_84 k (by omega) (by omega))
  · exact (gN_81_82 k (by omega) (by omega))
theorem gN_85_86 (k : Nat) (h1 : 85 ≤ k) (h2 : k ≤ 86) : ∀ pc e, gF k pc = some e → gChk k pc e = true := by
  rcases Nat.lt_or_ge 85 k with q | q
  · exact ((show 86 = k by omega) ▸ gO_86)
  · exact ((show 85 = k by omega) ▸ gO_85)
theorem gN_87_88 (k : Nat) (h1 : 87 ≤ k) (h2 : k ≤ 88) : ∀ pc e, gF k pc = some e → gChk k pc e = true := by
  rcases Nat.lt_or_ge 87 k with q | q
  · exact ((show 88 = k by omega) ▸ gO_88)
  · exact ((show 87 = k by omega) ▸ gO_87)
theorem gN_85_88 (k : Nat) (h1 : 85 ≤ k) (h2 : k ≤ 88) : ∀ pc e, gF k pc = some e → gChk k pc e = true := by
  rcases Nat.lt_or_ge 86 k with q | q
  · exact (gN_87_88 k (by omega) (by omega))
  · exact (gN_85_86 k (by omega) (by omega))
theorem gN_81_88 (k : Nat) (h1 : 81 ≤ k) (h2 : k ≤ 88) : ∀ pc e, gF k pc = some e → gChk k pc e = true := by
  rcases Nat.lt_or_ge 84 k with q | q
  · exact (gN_85_88 k (by omega) (by omega))
  · exact (gN_81_84 k (by omega) (by omega))
theorem gN_89_90 (k : Nat) (h1 : 89 ≤ k) (h2 : k ≤ 90) : ∀ pc e, gF k pc = some e → gChk k pc e = true := by
  rcases Nat.lt_or_ge 89 k with q | q
  · exact ((show 90 = k by omega) ▸ gO_90)
  · exact ((show 89 = k by omega) ▸ gO_89)
theorem gN_91_92 (k : Nat) (h1 : 91 ≤ k) (h2 : k ≤ 92) : ∀ pc e, gF k pc = some e → gChk k pc e = true := by
  rcases Nat.lt_or_ge 91 k with q | q
  · exact ((show 92 = k by omega) ▸ gO_92)
  · exact ((show 91 = k by omega) ▸ gO_91)
theorem gN_89_92 (k : Nat) (h1 : 89 ≤ k) (h2 : k ≤ 92) : ∀ pc e, gF k pc = some e → gChk k pc e = true := by
  rcases Nat.lt_or_ge 90 k with q | q
  · exact (gN_91_92 k (by omega) (by omega))
  · exact (gN_89_90 k (by omega) (by omega))
theorem gN_93_94 (k : Nat) (h1 : 93 ≤ k) (h2 : k ≤ 94) : ∀ pc e, gF k pc = some e → gChk k pc e = true := by
  rcases Nat.lt_or_ge 93 k with q | q
  · exact ((show 94 = k by omega) ▸ gO_94)
  · exact ((show 93 = k by omega) ▸ gO_93)
theorem gN_95_96 (k : Nat) (h1 : 95 ≤ k) (h2 : k ≤ 96) : ∀ pc e, gF k pc = some e → gChk k pc e = true := by
  rcases Nat.lt_or_ge 95 k with q | q
  · exact ((show 96 = k by omega) ▸ gO_96)
  · exact ((show 95 = k by omega) ▸ gO_95)
theorem gN_93_96 (k : Nat) (h1 : 93 ≤ k) (h2 : k ≤ 96) : ∀ pc e, gF k pc = some e → gChk k pc e = true := by
  rcases Nat.lt_or_ge 94 k with q | q
  · exact (gN_95_96 k (by omega) (by omega))
  · exact (gN_93_94 k (by omega) (by omega))
theorem gN_89_96 (k : Nat) (h1 : 89 ≤ k) (h2 : k ≤ 96) : ∀ pc e, gF k pc = some e → gChk k pc e = true := by
  rcases Nat.lt_or_ge 92 k with q | q
  · exact (gN_93_96 k (by omega) (by omega))
  · exact (gN_89_92 k (by omega) (by omega))
theorem gN_81_96 (k : Nat) (h1 : 81 ≤ k) (h2 : k ≤ 96) : ∀ pc e, gF k pc = some e → gChk k pc e = true := by
  rcases Nat.lt_or_ge 88 k with q | q
  · exact (gN_89_96 k (by omega) (by omega))
  · exact (gN_81_88 k (by omega) (by omega))
theorem gN_65_96 (k : Nat) (h1 : 65 ≤ k) (h2 : k ≤ 96) : ∀ pc e, gF k pc = some e → gChk k pc e = true := by
  rcases Nat.lt_or_ge 80 k with q | q
  · exact (gN_81_96 k (by omega) (by omega))
  · exact (gN_65_80 k (by omega) (by omega))
theorem gN_97_98 (k : Nat) (h1 : 97 ≤ k) (h2 : k ≤ 98) : ∀ pc e, gF k pc = some e → gChk k pc e = true := by
  rcases Nat.lt_or_ge 97 k with q | q
  · exact ((show 98 = k by omega) ▸ gO_98)
  · exact ((show 97 = k by omega) ▸ gO_97)
theorem gN_99_100 (k : Nat) (h1 : 99 ≤ k) (h2 : k ≤ 100) : ∀ pc e, gF k pc = some e → gChk k pc e = true := by
  rcases Nat.lt_or_ge 99 k with q | q
  · exact ((show 100 = k by omega) ▸ gO_100)
  · exact ((show 99 = k by omega) ▸ gO_99)
theorem gN_97_100 (k : Nat) (h1 : 97 ≤ k) (h2 : k ≤ 100) : ∀ pc e, gF k pc = some e → gChk k pc e = true := by
  rcases Nat.lt_or_ge 98 k with q | q
  · exact (gN_99_100 k (by omega) (by omega))
  · exact (gN_97_98 k (by omega) (by omega))
theorem gN_101_102 (k : Nat) (h1 : 101 ≤ k) (h2 : k ≤ 102) : ∀ pc e, gF k pc = some e → gChk k pc e = true := by
  rcases Nat.lt_or_ge 101 k with q | q
  · exact ((show 102 = k by omega) ▸ gO_102)
  · exact ((show 101 = k by omega) ▸ gO_101)
theorem gN_103_104 (k : Nat) (h1 : 103 ≤ k) (h2 : k ≤ 104) : ∀ pc e, gF k pc = some e → gChk k pc e = true := by
  rcases Nat.lt_or_ge 103 k with q | q
  · exact ((show 104 = k by omega) ▸ gO_104)
  · exact ((show 103 = k by omega) ▸ gO_103)
theorem gN_101_104 (k : Nat) (h1 : 101 ≤ k) (h2 : k ≤ 104) : ∀ pc e, gF k pc = some e → gChk k pc e = true := by
  rcases Nat.lt_or_ge 102 k with q | q
  · exact (gN_103_104 k (by omega) (by omega))
  · exact (gN_101_102 k (by omega) (by omega))
theorem gN_97_104 (k : Nat) (h1 : 97 ≤ k) (h2 : k ≤ 104) : ∀ pc e, gF k pc = some e → gChk k pc e = true := by
  rcases Nat.lt_or_ge 100 k with q | q
  · exact (gN_101_104 k (by omega) (by omega))
  · exact (gN_97_100 k (by omega) (by omega))
theorem gN_105_106 (k : Nat) (h1 : 105 ≤ k) (h2 : k ≤ 106) : ∀ pc e, gF k pc = some e → gChk k pc e = true := by
  rcases Nat.lt_or_ge 105 k with q | q
  · exact ((show 106 = k by omega) ▸ gO_106)
  · exact ((show 105 = k by omega) ▸ gO_105)
theorem gN_107_108 (k : Nat) (h1 : 107 ≤ k) (h2 : k ≤ 108) : ∀ pc e, gF k pc = some e → gChk k pc e = true := by
  rcases Nat.lt_or_ge 107 k with q | q
  · exact ((show 108 = k by omega) ▸ gO_108)
  · exact ((show 107 = k by omega) ▸ gO_107)
theorem gN_105_108 (k : Nat) (h1 : 105 ≤ k) (h2 : k ≤ 108) : ∀ pc e, gF k pc = some e → gChk k pc e = true := by
  rcases Nat.lt_or_ge 106 k with q | q
  · exact (gN_107_108 k (by omega) (by omega))
  · exact (gN_105_106 k (by omega) (by omega))
theorem gN_109_110 (k : Nat) (h1 : 109 ≤ k) (h2 : k ≤ 110) : ∀ pc e, gF k pc = some e → gChk k pc e = true := by
  rcases Nat.lt_or_ge 109 k with q | q
  · exact ((show 110 = k by omega) ▸ gO_110)
  · exact ((show 109 = k by omega) ▸ gO_109)
theorem gN_111_112 (k : Nat) (h1 : 111 ≤ k) (h2 : k ≤ 112) : ∀ pc e, gF k pc = some e → gChk k pc e = true := by
  rcases Nat.lt_or_ge 111 k with q | q
  · exact ((show 112 = k by omega) ▸ gO_112)
  · exact ((show 111 = k by omega) ▸ gO_111)
theorem gN_109_112 (k : Nat) (h1 : 109 ≤ k) (h2 : k ≤ 112) : ∀ pc e, gF k pc = some e → gChk k pc e = true := by
  rcases Nat.lt_or_ge 110 k with q | q
  · exact (gN_111_112 k (by omega) (by omega))
  · exact (gN_109_110 k (by omega) (by omega))
theorem gN_105_112 (k : Nat) (h1 : 105 ≤ k) (h2 : k ≤ 112) : ∀ pc e, gF k pc = some e → gChk k pc e = true := by
  rcases Nat.lt_or_ge 108 k with q | q
  · exact (gN_109_112 k (by omega) (by omega))
  · exact (gN_105_108 k (by omega) (by omega))
theorem gN_97_112 (k : Nat) (h1 : 97 ≤ k) (h2 : k ≤ 112) : ∀ pc e, gF k pc = some e → gChk k pc e = true := by
  rcases Nat.lt_or_ge 104 k with q | q
  · exact (gN_105_112 k (by omega) (by omega))
  · exact (gN_97_104 k (by omega) (by omega))
theorem gN_113_114 (k : Nat) (h1 : 113 ≤ k) (h2 : k ≤ 114) : ∀ pc e, gF k pc = some e → gChk k pc e = true := by
  rcases Nat.lt_or_ge 113 k with q | q
  · exact ((show 114 = k by omega) ▸ gO_114)
  · exact ((show 113 = k by omega) ▸ gO_113)
theorem gN_115_116 (k : Nat) (h1 : 115 ≤ k) (h2 : k ≤ 116) : ∀ pc e, gF k pc = some e → gChk k pc e = true := by
  rcases Nat.lt_or_ge 115 k with q | q
  · exact ((show 116 = k by omega) ▸ gO_116)
  · exact ((show 115 = k by omega) ▸ gO_115)
theorem gN_113_116 (k : Nat) (h1 : 113 ≤ k) (h2 : k ≤ 116) : ∀ pc e, gF k pc = some e → gChk k pc e = true := by
  rcases Nat.lt_or_ge 114 k with q | q
  · exact (gN_115_116 k (by omega) (by omega))
  · exact (gN_113_114 k (by omega) (by omega))
theorem gN_117_118 (k : Nat) (h1 : 117 ≤ k) (h2 : k ≤ 118) : ∀ pc e, gF k pc = some e → gChk k pc e = true := by
  rcases Nat.lt_or_ge 117 k with q | q
  · exact ((show 118 = k by omega) ▸ gO_118)
  · exact ((show 117 = k by omega) ▸ gO_117)
theorem gN_119_120 (k : Nat) (h1 : 119 ≤ k) (h2 : k ≤ 120) : ∀ pc e, gF k pc = some e → gChk k pc e = true := by
  rcases Nat.lt_or_ge 119 k with q | q
  · exact ((show 120 = k by omega) ▸ gO_120)
  · exact ((show 119 = k by omega) ▸ gO_119)
theorem gN_117_120 (k : Nat) (h1 : 117 ≤ k) (h2 : k ≤ 120) : ∀ pc e, gF k pc = some e → gChk k pc e = true := by
  rcases Nat.lt_or_ge 118 k with q | q
  · exact (gN_119_120 k (by omega) (by omega))
  · exact (gN_117_118 k (by omega) (by omega))
theorem gN_113_120 (k : Nat) (h1 : 113 ≤ k) (h2 : k ≤ 120) : ∀ pc e, gF k pc = some e → gChk k pc e = true := by
  rcases Nat.lt_or_ge 116 k with q | q
  · exact (gN_117_120 k (by omega) (by omega))
  · exact (gN_113_116 k (by omega) (by omega))
theorem gN_121_122 (k : Nat) (h1 : 121 ≤ k) (h2 : k ≤ 122) : ∀ pc e, gF k pc = some e → gChk k pc e = true := by
  rcases Nat.lt_or_ge 121 k with q | q
  · exact ((show 122 = k by omega) ▸ gO_122)
  · exact ((show 121 = k by omega) ▸ gO_121)
theorem gN_123_124 (k : Nat) (h1 : 123 ≤ k) (h2 : k ≤ 124) : ∀ pc e, gF k pc = some e → gChk k pc e = true := by
  rcases Nat.lt_or_ge 123 k with q | q
  · exact ((show 124 = k by omega) ▸ gO_124)
  · exact ((show 123 = k by omega) ▸ gO_123)
theorem gN_121_124 (k : Nat) (h1 : 121 ≤ k) (h2 : k ≤ 124) : ∀ pc e, gF k pc = some e → gChk k pc e = true := by
  rcases Nat.lt_or_ge 122 k with q | q
  · exact (gN_123_124 k (by omega) (by omega))
  · exact (gN_121_122 k (by omega) (by omega))
theorem gN_125_126 (k : Nat) (h1 : 125 ≤ k) (h2 : k ≤ 126) : ∀ pc e, gF k pc = some e → gChk k pc e = true := by
  rcases Nat.lt_or_ge 125 k with q | q
  · exact ((show 126 = k by omega) ▸ gO_126)
  · exact ((show 125 = k by omega) ▸ gO_125)
theorem gN_127_128 (k : Nat) (h1 : 127 ≤ k) (h2 : k ≤ 128) : ∀ pc e, gF k pc = some e → gChk k pc e = true := by
  rcases Nat.lt_or_ge 127 k with q | q
  · exact ((show 128 = k by omega) ▸ gO_128)
  · exact ((show 127 = k by omega) ▸ gO_127)
theorem gN_125_128 (k : Nat) (h1 : 125 ≤ k) (h2 : k ≤ 128) : ∀ pc e, gF k pc = some e → gChk k pc e = true := by
  rcases Nat.lt_or_ge 126 k with q | q
  · exact (gN_127_128 k (by omega) (by omega))
  · exact (gN_125_126 k (by omega) (by omega))
theorem gN_121_128 (k : Nat) (h1 : 121 ≤ k) (h2 : k ≤ 128) : ∀ pc e, gF k pc = some e → gChk k pc e = true := by
  rcases Nat.lt_or_ge 124 k with q | q
  · exact (gN_125_128 k (by omega) (by omega))
  · exact (gN_121_124 k (by omega) (by omega))
theorem gN_113_128 (k : Nat) (h1 : 113 ≤ k) (h2 : k ≤ 128) : ∀ pc e, gF k pc = some e → gChk k pc e = true := by
  rcases Nat.lt_or_ge 120 k with q | q
  · exact (gN_121_128 k (by omega) (by omega))
  · exact (gN_113_120 k (by omega) (by omega))
theorem gN_97_128 (k : Nat) (h1 : 97 ≤ k) (h2 : k ≤ 128) : ∀ pc e, gF k pc = some e → gChk k pc e = true := by
  rcases Nat.lt_or_ge 112 k with q | q
  · exact (gN_113_128 k (by omega) (by omega))
  · exact (gN_97_112 k (by omega) (by omega))
theorem gN_65_128 (k : Nat) (h1 : 65 ≤ k) (h2 : k ≤ 128) : ∀ pc e, gF k pc = some e → gChk k pc e = true := by
  rcases Nat.lt_or_ge 96 k with q | q
  · exact (gN_97_128 k (by omega) (by omega))
  · exact (gN_65_96 k (by omega) (by omega))
theorem gN_0_128 (k : Nat) (h1 : 0 ≤ k) (h2 : k ≤ 128) : ∀ pc e, gF k pc = some e → gChk k pc e = true := by
  rcases Nat.lt_or_ge 64 k with q | q
  · exact (gN_65_128 k (by omega) (by omega))
  · exact (gN_0_64 k (by omega) (by omega))
theorem gN_129_130 (k : Nat) (h1 : 129 ≤ k) (h2 : k ≤ 130) : ∀ pc e, gF k pc = some e → gChk k pc e = true := by
  rcases Nat.lt_or_ge 129 k with q | q
  · exact ((show 130 = k by omega) ▸ gO_130)
  · exact ((show 129 = k by omega) ▸ gO_129)
theorem gN_129_131 (k : Nat) (h1 : 129 ≤ k) (h2 : k ≤ 131) : ∀ pc e, gF k pc = some e → gChk k pc e = true := by
  rcases Nat.lt_or_ge 130 k with q | q
  · exact ((show 131 = k by omega) ▸ gO_131)
  · exact (gN_129_130 k (by omega) (by omega))
theorem gN_132_133 (k : Nat) (h1 : 132 ≤ k) (h2 : k ≤ 133) : ∀ pc e, gF k pc = some e → gChk k pc e = true := by
  rcases Nat.lt_or_ge 132 k with q | q
  · exact ((show 133 = k by omega) ▸ gO_133)
  · exact ((show 132 = k by omega) ▸ gO_132)
theorem gN_129_133 (k : Nat) (h1 : 129 ≤ k) (h2 : k ≤ 133) : ∀ pc e, gF k pc = some e → gChk k pc e = true := by
  rcases Nat.lt_or_ge 131 k with q | q
  · exact (gN_132_133 k (by omega) (by omega))
  · exact (gN_129_131 k (by omega) (by omega))
theorem gN_134_135 (k : Nat) (h1 : 134 ≤ k) (h2 : k ≤ 135) : ∀ pc e, gF k pc = some e → gChk k pc e = true := by
  rcases Nat.lt_or_ge 134 k with q | q
  · exact ((show 135 = k by omega) ▸ gO_135)
  · exact ((show 134 = k by omega) ▸ gO_134)
theorem gN_136_137 (k : Nat) (h1 : 136 ≤ k) (h2 : k ≤ 137) : ∀ pc e, gF k pc = some e → gChk k pc e = true := by
  rcases Nat.lt_or_ge 136 k with q | q
  · exact ((show 137 = k by omega) ▸ gO_137)
  · exact ((show 136 = k by omega) ▸ gO_136)
theorem gN_134_137 (k : Nat) (h1 : 134 ≤ k) (h2 : k ≤ 137) : ∀ pc e, gF k pc = some e → gChk k pc e = true := by
  rcases Nat.lt_or_ge 135 k with q | q
  · exact (gN_136_137 k (by omega) (by omega))
  · exact (gN_134_135 k (by omega) (by omega))
theorem gN_129_137 (k : Nat) (h1 : 129 ≤ k) (h2 : k ≤ 137) : ∀ pc e, gF k pc = some e → gChk k pc e = true := by
  rcases Nat.lt_or_ge 133 k with q | q
  · exact (gN_134_137 k (by omega) (by omega))
  · exact (gN_129_133 k (by omega) (by omega))
theorem gN_138_139 (k : Nat) (h1 : 138 ≤ k) (h2 : k ≤ 139) : ∀ pc e, gF k pc = some e → gChk k pc e = true := by
  rcases Nat.lt_or_ge 138 k with q | q
  · exact ((show 139 = k by omega) ▸ gO_139)
  · exact ((show 138 = k by omega) ▸ gO_138)
theorem gN_140_141 (k : Nat) (h1 : 140 ≤ k) (h2 : k ≤ 141) : ∀ pc e, gF k pc = some e → gChk k pc e = true := by
  rcases Nat.lt_or_ge 140 k with q | q
  · exact ((show 141 = k by omega) ▸ gO_141)
  · exact ((show 140 = k by omega) ▸ gO_140)
theorem gN_138_141 (k : Nat) (h1 : 138 ≤ k) (h2 : k ≤ 141) : ∀ pc e, gF k pc = some e → gChk k pc e = true := by
  rcases Nat.lt_or_ge 139 k with q | q
  · exact (gN_140_141 k (by omega) (by omega))
  · exact (gN_138_139 k (by omega) (by omega))
theorem gN_142_143 (k : Nat) (h1 : 142 ≤ k) (h2 : k ≤ 143) : ∀ pc e, gF k pc = some e → gChk k pc e = true := by
  rcases Nat.lt_or_ge 142 k with q | q
  · exact ((show 143 = k by omega) ▸ gO_143)
  · exact ((show 142 = k by omega) ▸ gO_142)
theorem gN_144_145 (k : Nat) (h1 : 144 ≤ k) (h2 : k ≤ 145) : ∀ pc e, gF k pc = some e → gChk k pc e = true := by
  rcases Nat.lt_or_ge 144 k with q | q
  · exact ((show 145 = k by omega) ▸ gO_145)
  · exact ((show 144 = k by omega) ▸ gO_144)
theorem gN_142_145 (k : Nat) (h1 : 142 ≤ k) (h2 : k ≤ 145) : ∀ pc e, gF k pc = some e → gChk k pc e = true := by
  rcases Nat.lt_or_ge 143 k with q | q
  · exact (gN_144_145 k (by omega) (by omega))
  · exact (gN_142_143 k (by omega) (by omega))
theorem gN_138_145 (k : Nat) (h1 : 138 ≤ k) (h2 : k ≤ 145) : ∀ pc e, gF k pc = some e → gChk k pc e = true := by
  rcases Nat.lt_or_ge 141 k with q | q
  · exact (gN_142_145 k (by omega) (by omega))
  · exact (gN_138_141 k (by omega) (by omega))
theorem gN_129_145 (k : Nat) (h1 : 129 ≤ k) (h2 : k ≤ 145) : ∀ pc e, gF k pc = some e → gChk k pc e = true := by
  rcases Nat.lt_or_ge 137 k with q | q
  · exact (gN_138_145 k (by omega) (by omega))
  · exact (gN_129_137 k (by omega) (by omega))
theorem gN_146_147 (k : Nat) (h1 : 146 ≤ k) (h2 : k ≤ 147) : ∀ pc e, gF k pc = some e → gChk k pc e = true := by
  rcases Nat.lt_or_ge 146 k with q | q
  · exact ((show 147 = k by omega) ▸ gO_147)
  · exact ((show 146 = k by omega) ▸ gO_146)
theorem gN_148_149 (k : Nat) (h1 : 148 ≤ k) (h2 : k ≤ 149) : ∀ pc e, gF k pc = some e → gChk k pc e = true := by
  rcases Nat.lt_or_ge 148 k with q | q
  · exact ((show 149 = k by omega) ▸ gO_149)
  · exact ((show 148 = k by omega) ▸ gO_148)
theorem gN_146_149 (k : Nat) (h1 : 146 ≤ k) (h2 : k ≤ 149) : ∀ pc e, gF k pc = some e → gChk k pc e = true := by
  rcases Nat.lt_or_ge 147 k with q | q
  · exact (gN_148_149 k (by omega) (by omega))
  · exact (gN_146_147 k (by omega) (by omega))
theorem gN_150_151 (k : Nat) (h1 : 150 ≤ k) (h2 : k ≤ 151) : ∀ pc e, gF k pc = some e → gChk k pc e = true := by
  rcases Nat.lt_or_ge 150 k with q | q
  · exact ((show 151 = k by omega) ▸ gO_151)
  · exact ((show 150 = k by omega) ▸ gO_150)
theorem gN_152_153 (k : Nat) (h1 : 152 ≤ k) (h2 : k ≤ 153) : ∀ pc e, gF k pc = some e → gChk k pc e = true := by
  rcases Nat.lt_or_ge 152 k with q | q
  · exact ((show 153 = k by omega) ▸ gO_153)
  · exact ((show 152 = k by omega) ▸ gO_152)
theorem gN_150_153 (k : Nat) (h1 : 150 ≤ k) (h2 : k ≤ 153) : ∀ pc e, gF k pc = some e → gChk k pc e = true := by
  rcases Nat.lt_or_ge 151 k with q | q
  · exact (gN_152_153 k (by omega) (by omega))
  · exact (gN_150_151 k (by omega) (by omega))
theorem gN_146_153 (k : Nat) (h1 : 146 ≤ k) (h2 : k ≤ 153) : ∀ pc e, gF k pc = some e → gChk k pc e = true := by
  rcases Nat.lt_or_ge 149 k with q | q
  · exact (gN_150_153 k (by omega) (by omega))
  · exact (gN_146_149 k (by omega) (by omega))
theorem gN_154_155 (k : Nat) (h1 : 154 ≤ k) (h2 : k ≤ 155) : ∀ pc e, gF k pc = some e → gChk k pc e = true := by
  rcases Nat.lt_or_ge 154 k with q | q
  · exact ((show 155 = k by omega) ▸ gO_155)
  · exact ((show 154 = k by omega) ▸ gO_154)
theorem gN_156_157 (k : Nat) (h1 : 156 ≤ k) (h2 : k ≤ 157) : ∀ pc e, gF k pc = some e → gChk k pc e = true := by
  rcases Nat.lt_or_ge 156 k with q | q
  · exact ((show 157 = k by omega) ▸ gO_157)
  · exact ((show 156 = k by omega) ▸ gO_156)
theorem gN_154_157 (k : Nat) (h1 : 154 ≤ k) (h2 : k ≤ 157) : ∀ pc e, gF k pc = some e → gChk k pc e = true := by
  rcases Nat.lt_or_ge 155 k with q | q
  · exact (gN_156_157 k (by omega) (by omega))
  · exact (gN_154_155 k (by omega) (by omega))
theorem gN_158_159 (k : Nat) (h1 : 158 ≤ k) (h2 : k ≤ 159) : ∀ pc e, gF k pc = some e → gChk k pc e = true := by
  rcases Nat.lt_or_ge 158 k with q | q
  · exact ((show 159 = k by omega) ▸ gO_159)
  · exact ((show 158 = k by omega) ▸ gO_158)
theorem gN_160_161 (k : Nat) (h1 : 160 ≤ k) (h2 : k ≤ 161) : ∀ pc e, gF k pc = some e → gChk k pc e = true := by
  rcases Nat.lt_or_ge 160 k with q | q
  · exact ((show 161 = k by omega) ▸ gO_161)
  · exact ((show 160 = k by omega) ▸ gO_160)
theorem gN_158_161 (k : Nat) (h1 : 158 ≤ k) (h2 : k ≤ 161) : ∀ pc e, gF k pc = some e → gChk k pc e = true := by
  rcases Nat.lt_or_ge 159 k with q | q
  · exact (gN_160_161 k (by omega) (by omega))
  · exact (gN_158_159 k (by omega) (by omega))
theorem gN_154_161 (k : Nat) (h1 : 154 ≤ k) (h2 : k ≤ 161) : ∀ pc e, gF k pc = some e → gChk k pc e = true := by
  rcases Nat.lt_or_ge 157 k with q | q
  · exact (gN_158_161 k (by omega) (by omega))
  · exact (gN_154_157 k (by omega) (by omega))
theorem gN_146_161 (k : Nat) (h1 : 146 ≤ k) (h2 : k ≤ 161) : ∀ pc e, gF k pc = some e → gChk k pc e = true := by
  rcases Nat.lt_or_ge 153 k with q | q
  · exact (gN_154_161 k (by omega) (by omega))
  · exact (gN_146_153 k (by omega) (by omega))
theorem gN_129_161 (k : Nat) (h1 : 129 ≤ k) (h2 : k ≤ 161) : ∀ pc e, gF k pc = some e → gChk k pc e = true := by
  rcases Nat.lt_or_ge 145 k with q | q
  · exact (gN_146_161 k (by omega) (by omega))
  · exact (gN_129_145 k (by omega) (by omega))
theorem gN_162_163 (k : Nat) (h1 : 162 ≤ k) (h2 : k ≤ 163) : ∀ pc e, gF k pc = some e → gChk k pc e = true := by
  rcases Nat.lt_or_ge 162 k with q | q
  · exact ((show 163 = k by omega) ▸ gO_163)
  · exact ((show 162 = k by omega) ▸ gO_162)
theorem gN_164_165 (k : Nat) (h1 : 164 ≤ k) (h2 : k ≤ 165) : ∀ pc e, gF k pc = some e → gChk k pc e = true := by
  rcases Nat.lt_or_ge 164 k with q | q
  · exact ((show 165 = k by omega) ▸ gO_165)
  · exact ((show 164 = k by omega) ▸ gO_164)
theorem gN_162_165 (k : Nat) (h1 : 162 ≤ k) (h2 : k ≤ 165) : ∀ pc e, gF k pc = some e → gChk k pc e = true := by
  rcases Nat.lt_or_ge 163 k with q | q
  · exact (gN_164_165 k (by omega) (by omega))
  · exact (gN_162_163 k (by omega) (by omega))
theorem gN_166_167 (k : Nat) (h1 : 166 ≤ k) (h2 : k ≤ 167) : ∀ pc e, gF k pc = some e → gChk k pc e = true := by
  rcases Nat.lt_or_ge 166 k with q | q
  · exact ((show 167 = k by omega) ▸ gO_167)
  · exact ((show 166 = k by omega) ▸ gO_166)
theorem gN_168_169 (k : Nat) (h1 : 168 ≤ k) (h2 : k ≤ 169) : ∀ pc e, gF k pc = some e → gChk k pc e = true := by
  rcases Nat.lt_or_ge 168 k with q | q
  · exact ((show 169 = k by omega) ▸ gO_169)
  · exact ((show 168 = k by omega) ▸ gO_168)
theorem gN_166_169 (k : Nat) (h1 : 166 ≤ k) (h2 : k ≤ 169) : ∀ pc e, gF k pc = some e → gChk k pc e = true := by
  rcases Nat.lt_or_ge 167 k with q | q
  · exact (gN_168_169 k (by omega) (by omega))
  · exact (gN_166_167 k (by omega) (by omega))
theorem gN_162_169 (k : Nat) (h1 : 162 ≤ k) (h2 : k ≤ 169) : ∀ pc e, gF k pc = some e → gChk k pc e = true := by
  rcases Nat.lt_or_ge 165 k with q | q
  · exact (gN_166_169 k (by omega) (by omega))
  · exact (gN_162_165 k (by omega) (by omega))
theorem gN_170_171 (k : Nat) (h1 : 170 ≤ k) (h2 : k ≤ 171) : ∀ pc e, gF k pc = some e → gChk k pc e = true := by
  rcases Nat.lt_or_ge 170 k with q | q
  · exact ((show 171 = k by omega) ▸ gO_171)
  · exact ((show 170 = k by omega) ▸ gO_170)
theorem gN_172_173 (k : Nat) (h1 : 172 ≤ k) (h2 : k ≤ 173) : ∀ pc e, gF k pc = some e → gChk k pc e = true := by
  rcases Nat.lt_or_ge 172 k with q | q
  · exact ((show 173 = k by omega) ▸ gO_173)
  · exact ((show 172 = k by omega) ▸ gO_172)
theorem gN_170_173 (k : Nat) (h1 : 170 ≤ k) (h2 : k ≤ 173) : ∀ pc e, gF k pc = some e → gChk k pc e = true := by
  rcases Nat.lt_or_ge 171 k with q | q
  · exact (gN_172_173 k (by omega) (by omega))
  · exact (gN_170_171 k (by omega) (by omega))
theorem gN_174_175 (k : Nat) (h1 : 174 ≤ k) (h2 : k ≤ 175) : ∀ pc e, gF k pc = some e → gChk k pc e = true := by
  rcases Nat.lt_or_ge 174 k with q | q
  · exact ((show 175 = k by omega) ▸ gO_175)
  · exact ((show 174 = k by omega) ▸ gO_174)
theorem gN_176_177 (k : Nat) (h1 : 176 ≤ k) (h2 : k ≤ 177) : ∀ pc e, gF k pc = some e → gChk k pc e = true := by
  rcases Nat.lt_or_ge 176 k with q | q
  · exact ((show 177 = k by omega) ▸ gO_177)
  · exact ((show 176 = k by omega) ▸ gO_176)
theorem gN_174_177 (k : Nat) (h1 : 174 ≤ k) (h2 : k ≤ 177) : ∀ pc e, gF k pc = some e → gChk k pc e = true := by
  rcases Nat.lt_or_ge 175 k with q | q
  · exact (gN_176_177 k (by omega) (by omega))
  · exact (gN_174_175 k (by omega) (by omega))
theorem gN_170_177 (k : Nat) (h1 : 170 ≤ k) (h2 : k ≤ 177) : ∀ pc e, gF k pc = some e → gChk k pc e = true := by
  rcases Nat.lt_or_ge 173 k with q | q
  · exact (gN_174_177 k (by omega) (by omega))
  · exact (gN_170_173 k (by omega) (by omega))
theorem gN_162_177 (k : Nat) (h1 : 162 ≤ k) (h2 : k ≤ 177) : ∀ pc e, gF k pc = some e → gChk k pc e = true := by
  rcases Nat.lt_or_ge 169 k with q | q
  · exact (gN_170_177 k (by omega) (by omega))
  · exact (gN_162_169 k (by omega) (by omega))
theorem gN_178_179 (k : Nat) (h1 : 178 ≤ k) (h2 : k ≤ 179) : ∀ pc e, gF k pc = some e → gChk k pc e = true := by
  rcases Nat.lt_or_ge 178 k with q | q
  · exact ((show 179 = k by omega) ▸ gO_179)
  · exact ((show 178 = k by omega) ▸ gO_178)
theorem gN_180_181 (k : Nat) (h1 : 180 ≤ k) (h2 : k ≤ 181) : ∀ pc e, gF k pc = some e → gChk k pc e = true := by
  rcases Nat.lt_or_ge 180 k with q | q
  · exact ((show 181 = k by omega) ▸ gO_181)
  · exact ((show 180 = k by omega) ▸ gO_180)
theorem gN_178_181 (k : Nat) (h1 : 178 ≤ k) (h2 : k ≤ 181) : ∀ pc e, gF k pc = some e → gChk k pc e = true := by
  rcases Nat.lt_or_ge 179 k with q | q
  · exact (gN_180_181 k (by omega) (by omega))
  · exact (gN_178_179 k (by omega) (by omega))
theorem gN_182_183 (k : Nat) (h1 : 182 ≤ k) (h2 : k ≤ 183) : ∀ pc e, gF k pc = some e → gChk k pc e = true := by
  rcases Nat.lt_or_ge 182 k with q | q
  · exact ((show 183 = k by omega) ▸ gO_183)
  · exact ((show 182 = k by omega) ▸ gO_182)
theorem gN_184_185 (k : Nat) (h1 : 184 ≤ k) (h2 : k ≤ 185) : ∀ pc e, gF k pc = some e → gChk k pc e = true := by
  rcases Nat.lt_or_ge 184 k with q | q
  · exact ((show 185 = k by omega) ▸ gO_185)
  · exact ((show 184 = k by omega) ▸ gO_184)
theorem gN_182_185 (k : Nat) (h1 : 182 ≤ k) (h2 : k ≤ 185) : ∀ pc e, gF k pc = some e → gChk k pc e = true := by
  rcases Nat.lt_or_ge 183 k with q | q
  · exact (gN_184_185 k (by omega) (by omega))
  · exact (gN_182_183 k (by omega) (by omega))
theorem gN_178_185 (k : Nat) (h1 : 178 ≤ k) (h2 : k ≤ 185) : ∀ pc e, gF k pc = some e → gChk k pc e = true := by
  rcases Nat.lt_or_ge 181 k with q | q
  · exact (gN_182_185 k (by omega) (by omega))
  · exact (gN_178_181 k (by omega) (by omega))
theorem gN_186_187 (k : Nat) (h1 : 186 ≤ k) (h2 : k ≤ 187) : ∀ pc e, gF k pc = some e → gChk k pc e = true := by
  rcases Nat.lt_or_ge 186 k with q | q
  · exact ((show 187 = k by omega) ▸ gO_187)
  · exact ((show 186 = k by omega) ▸ gO_186)
theorem gN_188_189 (k : Nat) (h1 : 188 ≤ k) (h2 : k ≤ 189) : ∀ pc e, gF k pc = some e → gChk k pc e = true := by
  rcases Nat.lt_or_ge 188 k with q | q
  · exact ((show 189 = k by omega) ▸ gO_189)
  · exact ((show 188 = k by omega) ▸ gO_188)
theorem gN_186_189 (k : Nat) (h1 : 186 ≤ k) (h2 : k ≤ 189) : ∀ pc e, gF k pc = some e → gChk k pc e = true := by
  rcases Nat.lt_or_ge 187 k with q | q
  · exact (gN_188_189 k (by omega) (by omega))
  · exact (gN_186_187 k (by omega) (by omega))
theorem gN_190_191 (k : Nat) (h1 : 190 ≤ k) (h2 : k ≤ 191) : ∀ pc e, gF k pc = some e → gChk k pc e = true := by
  rcases Nat.lt_or_ge 190 k with q | q
  · exact ((show 191 = k by omega) ▸ gO_191)
  · exact ((show 190 = k by omega) ▸ gO_190)
theorem gN_192_193 (k : Nat) (h1 : 192 ≤ k) (h2 : k ≤ 193) : ∀ pc e, gF k pc = some e → gChk k pc e = true := by
  rcases Nat.lt_or_ge 192 k with q | q
  · exact ((show 193 = k by omega) ▸ gO_193)
  · exact ((show 192 = k by omega) ▸ gO_192)
theorem gN_190_193 (k : Nat) (h1 : 190 ≤ k) (h2 : k ≤ 193) : ∀ pc e, gF k pc = some e → gChk k pc e = true := by
  rcases Nat.lt_or_ge 191 k with q | q
  · exact (gN_192_193 k (by omega) (by omega))
  · exact (gN_190_191 k (by omega) (by omega))
theorem gN_186_193 (k : Nat) (h1 : 186 ≤ k) (h2 : k ≤ 193) : ∀ pc e, gF k pc = some e → gChk k pc e = true := by
  rcases Nat.lt_or_ge 189 k with q | q
  · exact (gN_190_193 k (by omega) (by omega))
  · exact (gN_186_189 k (by omega) (by omega))
theorem gN_178_193 (k : Nat) (h1 : 178 ≤ k) (h2 : k ≤ 193) : ∀ pc e, gF k pc = some e → gChk k pc e = true := by
  rcases Nat.lt_or_ge 185 k with q | q
  · exact (gN_186_193 k (by omega) (by omega))
  · exact (gN_178_185 k (by omega) (by omega))
theorem gN_162_193 (k : Nat) (h1 : 162 ≤ k) (h2 : k ≤ 193) : ∀ pc e, gF k pc = some e → gChk k pc e = true := by
  rcases Nat.lt_or_ge 177 k with q | q
  · exact (gN_178_193 k (by omega) (by omega))
  · exact (gN_162_177 k (by omega) (by omega))
theorem gN_129_193 (k : Nat) (h1 : 129 ≤ k) (h2 : k ≤ 193) : ∀ pc e, gF k pc = some e → gChk k pc e = true := by
  rcases Nat.lt_or_ge 161 k with q | q
  · exact (gN_162_193 k (by omega) (by omega))
  · exact (gN_129_161 k (by omega) (by omega))
theorem gN_194_195 (k : Nat) (h1 : 194 ≤ k) (h2 : k ≤ 195) : ∀ pc e, gF k pc = some e → gChk k pc e = true := by
  rcases Nat.lt_or_ge 194 k with q | q
  · exact ((show 195 = k by omega) ▸ gO_195)
  · exact ((show 194 = k by omega) ▸ gO_194)
theorem gN_196_197 (k : Nat) (h1 : 196 ≤ k) (h2 : k ≤ 197) : ∀ pc e, gF k pc = some e → gChk k pc e = true := by
  rcases Nat.lt_or_ge 196 k with q | q
  · exact ((show 197 = k by omega) ▸ gO_197)
  · exact ((show 196 = k by omega) ▸ gO_196)
theorem gN_194_197 (k : Nat) (h1 : 194 ≤ k) (h2 : k ≤ 197) : ∀ pc e, gF k pc = some e → gChk k pc e = true := by
  rcases Nat.lt_or_ge 195 k with q | q
  · exact (gN_196_197 k (by omega) (by omega))
  · exact (gN_194_195 k (by omega) (by omega))
theorem gN_198_199 (k : Nat) (h1 : 198 ≤ k) (h2 : k ≤ 199) : ∀ pc e, gF k pc = some e → gChk k pc e = true := by
  rcases Nat.lt_or_ge 198 k with q | q
  · exact ((show 199 = k by omega) ▸ gO_199)
  · exact ((show 198 = k by omega) ▸ gO_198)
theorem gN_200_201 (k : Nat) (h1 : 200 ≤ k) (h2 : k ≤ 201) : ∀ pc e, gF k pc = some e → gChk k pc e = true := by
  rcases Nat.lt_or_ge 200 k with q | q
  · exact ((show 201 = k by omega) ▸ gO_201)
  · exact ((show 200 = k by omega) ▸ gO_200)
theorem gN_198_201 (k : Nat) (h1 : 198 ≤ k) (h2 : k ≤ 201) : ∀ pc e, gF k pc = some e → gChk k pc e = true := by
  rcases Nat.lt_or_ge 199 k with q | q
  · exact (gN_200_201 k (by omega) (by omega))
  · exact (gN_198_199 k (by omega) (by omega))
theorem gN_194_201 (k : Nat) (h1 : 194 ≤ k) (h2 : k ≤ 201) : ∀ pc e, gF k pc = some e → gChk k pc e = true := by
  rcases Nat.lt_or_ge 197 k with q | q
  · exact (gN_198_201 k (by omega) (by omega))
  · exact (gN_194_197 k (by omega) (by omega))
theorem gN_202_203 (k : Nat) (h1 : 202 ≤ k) (h2 : k ≤ 203) : ∀ pc e, gF k pc = some e → gChk k pc e = true := by
  rcases Nat.lt_or_ge 202 k with q | q
  · exact ((show 203 = k by omega) ▸ gO_203)
  · exact ((show 202 = k by omega) ▸ gO_202)
theorem gN_204_205 (k : Nat) (h1 : 204 ≤ k) (h2 : k ≤ 205) : ∀ pc e, gF k pc = some e → gChk k pc e = true := by
  rcases Nat.lt_or_ge 204 k with q | q
  · exact ((show 205 = k by omega) ▸ gO_205)
  · exact ((show 204 = k by omega) ▸ gO_204)
theorem gN_202_205 (k : Nat) (h1 : 202 ≤ k) (h2 : k ≤ 205) : ∀ pc e, gF k pc = some e → gChk k pc e = true := by
  rcases Nat.lt_or_ge 203 k with q | q
  · exact (gN_204_205 k (by omega) (by omega))
  · exact (gN_202_203 k (by omega) (by omega))
theorem gN_206_207 (k : Nat) (h1 : 206 ≤ k) (h2 : k ≤ 207) : ∀ pc e, gF k pc = some e → gChk k pc e = true := by
  rcases Nat.lt_or_ge 206 k with q | q
  · exact ((show 207 = k by omega) ▸ gO_207)
  · exact ((show 206 = k by omega) ▸ gO_206)
theorem gN_208_209 (k : Nat) (h1 : 208 ≤ k) (h2 : k ≤ 209) : ∀ pc e, gF k pc = some e → gChk k pc e = true := by
  rcases Nat.lt_or_ge 208 k with q | q
  · exact ((show 209 = k by omega) ▸ gO_209)
  · exact ((show 208 = k by omega) ▸ gO_208)
theorem gN_206_209 (k : Nat) (h1 : 206 ≤ k) (h2 : k ≤ 209) : ∀ pc e, gF k pc = some e → gChk k pc e = true := by
  rcases Nat.lt_or_ge 207 k with q | q
  · exact (gN_208_209 k (by omega) (by omega))
  · exact (gN_206_207 k (by omega) (by omega))
theorem gN_202_209 (k : Nat) (h1 : 202 ≤ k) (h2 : k ≤ 209) : ∀ pc e, gF k pc = some e → gChk k pc e = true := by
  rcases Nat.lt_or_ge 205 k with q | q
  · exact (gN_206_209 k (by omega) (by omega))
  · exact (gN_202_205 k (by omega) (by omega))
theorem gN_194_209 (k : Nat) (h1 : 194 ≤ k) (h2 : k ≤ 209) : ∀ pc e, gF k pc = some e → gChk k pc e = true := by
  rcases Nat.lt_or_ge 201 k with q | q
  · exact (gN_202_209 k (by omega) (by omega))
  · exact (gN_194_201 k (by omega) (by omega))
theorem gN_210_211 (k : Nat) (h1 : 210 ≤ k) (h2 : k ≤ 211) : ∀ pc e, gF k pc = some e → gChk k pc e = true := by
  rcases Nat.lt_or_ge 210 k with q | q
  · exact ((show 211 = k by omega) ▸ gO_211)
  · exact ((show 210 = k by omega) ▸ gO_210)
theorem gN_212_213 (k : Nat) (h1 : 212 ≤ k) (h2 : k ≤ 213) : ∀ pc e, gF k pc = some e → gChk k pc e = true := by
  rcases Nat.lt_or_ge 212 k with q | q
  · exact ((show 213 = k by omega) ▸ gO_213)
  · exact ((show 212 = k by omega) ▸ gO_212)
theorem gN_210_213 (k : Nat) (h1 : 210 ≤ k) (h2 : k ≤ 213) : ∀ pc e, gF k pc = some e → gChk k pc e = true := by
  rcases Nat.lt_or_ge 211 k with q | q
  · exact (gN_212_213 k (by omega) (by omega))
  · exact (gN_210_211 k (by omega) (by omega))
theorem gN_214_215 (k : Nat) (h1 : 214 ≤ k) (h2 : k ≤ 215) : ∀ pc e, gF k pc = some e → gChk k pc e = true := by
  rcases Nat.lt_or_ge 214 k with q | q
  · exact ((show 215 = k by omega) ▸ gO_215)
  · exact ((show 214 = k by omega) ▸ gO_214)
theorem gN_216_217 (k : Nat) (h1 : 216 ≤ k) (h2 : k ≤ 217) : ∀ pc e, gF k pc = some e → gChk k pc e = true := by
  rcases Nat.lt_or_ge 216 k with q | q
  · exact ((show 217 = k by omega) ▸ gO_217)
  · exact ((show 216 = k by omega) ▸ gO_216)
theorem gN_214_217 (k : Nat) (h1 : 214 ≤ k) (h2 : k ≤ 217) : ∀ pc e, gF k pc = some e → gChk k pc e = true := by
  rcases Nat.lt_or_ge 215 k with q | q
  · exact (gN_216_217 k (by omega) (by omega))
  · exact (gN_214_215 k (by omega) (by omega))
theorem gN_210_217 (k : Nat) (h1 : 210 ≤ k) (h2 : k ≤ 217) : ∀ pc e, gF k pc = some e → gChk k pc e = true := by
  rcases Nat.lt_or_ge 213 k with q | q
  · exact (gN_214_217 k (by omega) (by omega))
  · exact (gN_210_213 k (by omega) (by omega))
theorem gN_218_219 (k : Nat) (h1 : 218 ≤ k) (h2 : k ≤ 219) : ∀ pc e, gF k pc = some e → gChk k pc e = true := by
  rcases Nat.lt_or_ge 218 k with q | q
  · exact ((show 219 = k by omega) ▸ gO_219)
  · exact ((show 218 = k by omega) ▸ gO_218)
theorem gN_220_221 (k : Nat) (h1 : 220 ≤ k) (h2 : k ≤ 221) : ∀ pc e, gF k pc = some e → gChk k pc e = true := by
  rcases Nat.lt_or_ge 220 k with q | q
  · exact ((show 221 = k by omega) ▸ gO_221)
  · exact ((show 220 = k by omega) ▸ gO_220)
theorem gN_218_221 (k : Nat) (h1 : 218 ≤ k) (h2 : k ≤ 221) : ∀ pc e, gF k pc = some e → gChk k pc e = true := by
  rcases Nat.lt_or_ge 219 k with q | q
  · exact (gN_220_221 k (by omega) (by omega))
  · exact (gN_218_219 k (by omega) (by omega))
theorem gN_222_223 (k : Nat) (h1 : 222 ≤ k) (h2 : k ≤ 223) : ∀ pc e, gF k pc = some e → gChk k pc e = true := by
  rcases Nat.lt_or_ge 222 k with q | q
  · exact ((show 223 = k by omega) ▸ gO_223)
  · exact ((show 222 = k by omega) ▸ gO_222)
theorem gN_224_225 (k : Nat) (h1 : 224 ≤ k) (h2 : k ≤ 225) : ∀ pc e, gF k pc = some e → gChk k pc e = true := by
  rcases Nat.lt_or_ge 224 k with q | q
  · exact ((show 225 = k by omega) ▸ gO_225)
  · exact ((show 224 = k by omega) ▸ gO_224)
theorem gN_222_225 (k : Nat) (h1 : 222 ≤ k) (h2 : k ≤ 225) : ∀ pc e, gF k pc = some e → gChk k pc e = true := by
  rcases Nat.lt_or_ge 223 k with q | q
  · exact (gN_224_225 k (by omega) (by omega))
  · exact (gN_222_223 k (by omega) (by omega))
theorem gN_218_225 (k : Nat) (h1 : 218 ≤ k) (h2 : k ≤ 225) : ∀ pc e, gF k pc = some e → gChk k pc e = true := by
  rcases Nat.lt_or_ge 221 k with q | q
  · exact (gN_222_225 k (by omega) (by omega))
  · exact (gN_218_221 k (by omega) (by omega))
theorem gN_210_225 (k : Nat) (h1 : 210 ≤ k) (h2 : k ≤ 225) : ∀ pc e, gF k pc = some e → gChk k pc e = true := by
  rcases Nat.lt_or_ge 217 k with q | q
  · exact (gN_218_225 k (by omega) (by omega))
  · exact (gN_210_217 k (by omega) (by omega))
theorem gN_194_225 (k : Nat) (h1 : 194 ≤ k) (h2 : k ≤ 225) : ∀ pc e, gF k pc = some e → gChk k pc e = true := by
  rcases Nat.lt_or_ge 209 k with q | q
  · exact (gN_210_225 k (by omega) (by omega))
  · exact (gN_194_209 k (by omega) (by omega))
theorem gN_226_227 (k : Nat) (h1 : 226 ≤ k) (h2 : k ≤ 227) : ∀ pc e, gF k pc = some e → gChk k pc e = true := by
  rcases Nat.lt_or_ge 226 k with q | q
  · exact ((show 227 = k by omega) ▸ gO_227)
  · exact ((show 226 = k by omega) ▸ gO_226)
theorem gN_228_229 (k : Nat) (h1 : 228 ≤ k) (h2 : k ≤ 229) : ∀ pc e, gF k pc = some e → gChk k pc e = true := by
  rcases Nat.lt_or_ge 228 k with q | q
  · exact ((show 229 = k by omega) ▸ gO_229)
  · exact ((show 228 = k by omega) ▸ gO_228)
theorem gN_226_229 (k : Nat) (h1 : 226 ≤ k) (h2 : k ≤ 229) : ∀ pc e, gF k pc = some e → gChk k pc e = true := by
  rcases Nat.lt_or_ge 227 k with q | q
  · exact (gN_228_229 k (by omega) (by omega))
  · exact (gN_226_227 k (by omega) (by omega))
theorem gN_230_231 (k : Nat) (h1 : 230 ≤ k) (h2 : k ≤ 231) : ∀ pc e, gF k pc = some e → gChk k pc e = true := by
  rcases Nat.lt_or_ge 230 k with q | q
  · exact ((show 231 = k by omega) ▸ gO_231)
  · exact ((show 230 = k by omega) ▸ gO_230)
theorem gN_232_233 (k : Nat) (h1 : 232 ≤ k) (h2 : k ≤ 233) : ∀ pc e, gF k pc = some e → gChk k pc e = true := by
  rcases Nat.lt_or_ge 232 k with q | q
  · exact ((show 233 = k by omega) ▸ gO_233)
  · exact ((show 232 = k by omega) ▸ gO_232)
theorem gN_230_233 (k : Nat) (h1 : 230 ≤ k) (h2 : k ≤ 233) : ∀ pc e, gF k pc = some e → gChk k pc e = true := by
  rcases Nat.lt_or_ge 231 k with q | q
  · exact (gN_232_233 k (by omega) (by omega))
  · exact (gN_230_231 k (by omega) (by omega))
theorem gN_226_233 (k : Nat) (h1 : 226 ≤ k) (h2 : k ≤ 233) : ∀ pc e, gF k pc = some e → gChk k pc e = true := by
  rcases Nat.lt_or_ge 229 k with q | q
  · exact (gN_230_233 k (by omega) (by omega))
  · exact (gN_226_229 k (by omega) (by omega))
theorem gN_234_235 (k : Nat) (h1 : 234 ≤ k) (h2 : k ≤ 235) : ∀ pc e, gF k pc = some e → gChk k pc e = true := by
  rcases Nat.lt_or_ge 234 k with q | q
  · exact ((show 235 = k by omega) ▸ gO_235)
  · exact ((show 234 = k by omega) ▸ gO_234)
theorem gN_236_237 (k : Nat) (h1 : 236 ≤ k) (h2 : k ≤ 237) : ∀ pc e, gF k pc = some e → gChk k pc e = true := by
  rcases Nat.lt_or_ge 236 k with q | q
  · exact ((show 237 = k by omega) ▸ gO_237)
  · exact ((show 236 = k by omega) ▸ gO_236)
theorem gN_234_237 (k : Nat) (h1 : 234 ≤ k) (h2 : k ≤ 237) : ∀ pc e, gF k pc = some e → gChk k pc e = true := by
  rcases Nat.lt_or_ge 235 k with q | q
  · exact (gN_236_237 k (by omega) (by omega))
  · exact (gN_234_235 k (by omega) (by omega))
theorem gN_238_239 (k : Nat) (h1 : 238 ≤ k) (h2 : k ≤ 239) : ∀ pc e, gF k pc = some e → gChk k pc e = true := by
  rcases Nat.lt_or_ge 238 k with q | q
  · exact ((show 239 = k by omega) ▸ gO_239)
  · exact ((show 238 = k by omega) ▸ gO_238)
theorem gN_240_241 (k : Nat) (h1 : 240 ≤ k) (h2 : k ≤ 241) : ∀ pc e, gF k pc = some e → gChk k pc e = true := by
  rcases Nat.lt_or_ge 240 k with q | q
  · exact ((show 241 = k by omega) ▸ gO_241)
  · exact ((show 240 = k by omega) ▸ gO_240)
theorem gN_238_241 (k : Nat) (h1 : 238 ≤ k) (h2 : k ≤ 241) : ∀ pc e, gF k pc = some e → gChk k pc e = true := by
  rcases Nat.lt_or_ge 239 k with q | q
  · exact (gN_240_241 k (by omega) (by omega))
  · exact (gN_238_239 k (by omega) (by omega))
theorem gN_234_241 (k : Nat) (h1 : 234 ≤ k) (h2 : k ≤ 241) : ∀ pc e, gF k pc = some e → gChk k pc e = true := by
  rcases Nat.lt_or_ge 237 k with q | q
  · exact (gN_238_241 k (by omega) (by omega))
  · exact (gN_234_237 k (by omega) (by omega))
theorem gN_226_241 (k : Nat) (h1 : 226 ≤ k) (h2 : k ≤ 241) : ∀ pc e, gF k pc = some e → gChk k pc e = true := by
  rcases Nat.lt_or_ge 233 k with q | q
  · exact (gN_234_241 k (by omega) (by omega))
  · exact (gN_226_233 k (by omega) (by omega))
theorem gN_242_243 (k : Nat) (h1 : 242 ≤ k) (h2 : k ≤ 243) : ∀ pc e, gF k pc = some e → gChk k pc e = true := by
  rcases Nat.lt_or_ge 242 k with q | q
  · exact ((show 243 = k by omega) ▸ gO_243)
  · exact ((show 242 = k by omega) ▸ gO_242)
theorem gN_244_245 (k : Nat) (h1 : 244 ≤ k) (h2 : k ≤ 245) : ∀ pc e, gF k pc = some e → gChk k pc e = true := by
  rcases Nat.lt_or_ge 244 k with q | q
  · exact ((show 245 = k by omega) ▸ gO_245)
  · exact ((show 244 = k by omega) ▸ gO_244)
theorem gN_242_245 (k : Nat) (h1 : 242 ≤ k) (h2 : k ≤ 245) : ∀ pc e, gF k pc = some e → gChk k pc e = true := by
  rcases Nat.lt_or_ge 243 k with q | q
  · exact (gN_244_245 k (by omega) (by omega))
  · exact (gN_242_243 k (by omega) (by omega))
theorem gN_246_247 (k : Nat) (h1 : 246 ≤ k) (h2 : k ≤ 247) : ∀ pc e, gF k pc = some e → gChk k pc e = true := by
  rcases Nat.lt_or_ge 246 k with q | q
  · exact ((show 247 = k by omega) ▸ gO_247)
  · exact ((show 246 = k by omega) ▸ gO_246)
theorem gN_248_249 (k : Nat) (h1 : 248 ≤ k) (h2 : k ≤ 249) : ∀ pc e, gF k pc = some e → gChk k pc e = true := by
  rcases Nat.lt_or_ge 248 k with q | q
  · exact ((show 249 = k by omega) ▸ gO_249)
  · exact ((show 248 = k by omega) ▸ gO_248)
theorem gN_246_249 (k : Nat) (h1 : 246 ≤ k) (h2 : k ≤ 249) : ∀ pc e, gF k pc = some e → gChk k pc e = true := by
  rcases Nat.lt_or_ge 247 k with q | q
  · exact (gN_248_249 k (by omega) (by omega))
  · exact (gN_246_247 k (by omega) (by omega))
theorem gN_242_249 (k : Nat) (h1 : 242 ≤ k) (h2 : k ≤ 249) : ∀ pc e, gF k pc = some e → gChk k pc e = true := by
  rcases Nat.lt_or_ge 245 k with q | q
  · exact (gN_246_249 k (by omega) (by omega))
  · exact (gN_242_245 k (by omega) (by omega))
theorem gN_250_251 (k : Nat) (h1 : 250 ≤ k) (h2 : k ≤ 251) : ∀ pc e, gF k pc = some e → gChk k pc e = true := by
  rcases Nat.lt_or_ge 250 k with q | q
  · exact ((show 251 = k by omega) ▸ gO_251)
  · exact ((show 250 = k by omega) ▸ gO_250)
theorem gN_252_253 (k : Nat) (h1 : 252 ≤ k) (h2 : k ≤ 253) : ∀ pc e, gF k pc = some e → gChk k pc e = true := by
  rcases Nat.lt_or_ge 252 k with q | q
  · exact ((show 253 = k by omega) ▸ gO_253)
  · exact ((show 252 = k by omega) ▸ gO_252)
theorem gN_250_253 (k : Nat) (h1 : 250 ≤ k) (h2 : k ≤ 253) : ∀ pc e, gF k pc = some e → gChk k pc e = true := by
  rcases Nat.lt_or_ge 251 k with q | q
  · exact (gN_252_253 k (by omega) (by omega))
  · exact (gN_250_251 k (by omega) (by omega))
theorem gN_254_255 (k : Nat) (h1 : 254 ≤ k) (h2 : k ≤ 255) : ∀ pc e, gF k pc = some e → gChk k pc e = true := by
  rcases Nat.lt_or_ge 254 k with q | q
  · exact ((show 255 = k by omega) ▸ gO_255)
  · exact ((show 254 = k by omega) ▸ gO_254)
theorem gN_256_257 (k : Nat) (h1 : 256 ≤ k) (h2 : k ≤ 257) : ∀ pc e, gF k pc = some e → gChk k pc e = true := by
  rcases Nat.lt_or_ge 256 k with q | q
  · exact ((show 257 = k by omega) ▸ gO_257)
  · exact ((show 256 = k by omega) ▸ gO_256)
theorem gN_254_257 (k : Nat) (h1 : 254 ≤ k) (h2 : k ≤ 257) : ∀ pc e, gF k pc = some e → gChk k pc e = true := by
  rcases Nat.lt_or_ge 255 k with q | q
  · exact (gN_256_257 k (by omega) (by omega))
  · exact (gN_254_255 k (by omega) (by omega))
theorem gN_250_257 (k : Nat) (h1 : 250 ≤ k) (h2 : k ≤ 257) : ∀ pc e, gF k pc = some e → gChk k pc e = true := by
  rcases Nat.lt_or_ge 253 k with q | q
  · exact (gN_254_257 k (by omega) (by omega))
  · exact (gN_250_253 k (by omega) (by omega))
theorem gN_242_257 (k : Nat) (h1 : 242 ≤ k) (h2 : k ≤ 257) : ∀ pc e, gF k pc = some e → gChk k pc e = true := by
  rcases Nat.lt_or_ge 249 k with q | q
  · exact (gN_250_257 k (by omega) (by omega))
  · exact (gN_242_249 k (by omega) (by omega))
theorem gN_226_257 (k : Nat) (h1 : 226 ≤ k) (h2 : k ≤ 257) : ∀ pc e, gF k pc = some e → gChk k pc e = true := by
  rcases Nat.lt_or_ge 241 k with q | q
  · exact (gN_242_257 k (by omega) (by omega))
  · exact (gN_226_241 k (by omega) (by omega))
theorem gN_194_257 (k : Nat) (h1 : 194 ≤ k) (h2 : k ≤ 257) : ∀ pc e, gF k pc = some e → gChk k pc e = true := by
  rcases Nat.lt_or_ge 225 k with q | q
  · exact (gN_226_257 k (by omega) (by omega))
  · exact (gN_194_225 k (by omega) (by omega))
theorem gN_129_257 (k : Nat) (h1 : 129 ≤ k) (h2 : k ≤ 257) : ∀ pc e, gF k pc = some e → gChk k pc e = true := by
  rcases Nat.lt_or_ge 193 k with q | q
  · exact (gN_194_257 k (by omega) (by omega))
  · exact (gN_129_193 k (by omega) (by omega))
theorem gN_0_257 (k : Nat) (h1 : 0 ≤ k) (h2 : k ≤ 257) : ∀ pc e, gF k pc = some e → gChk k pc e = true := by
  rcases Nat.lt_or_ge 128 k with q | q
  · exact (gN_129_257 k (by omega) (by omega))
  · exact (gN_0_128 k (by omega) (by omega))
theorem gF_lt {k pc : Nat} {e : gE} (h : gF k pc = some e) : k < 258 := by
  unfold gF at h
  cases hb : Nat.ble k 257 with
  | true => exact Nat.lt_succ_of_le (Nat.le_of_ble_eq_true hb)
  | false => rw [hb] at h; exact absurd h (by simp)
theorem gF_ok {k pc : Nat} {e : gE} (h : gF k pc = some e) : ∃ (i : Instr) (len : Nat), decode (gCode k) pc = .ok (i, len) ∧ gCk k pc len i e = true := by
  have h1 := gN_0_257 k (Nat.zero_le _) (Nat.le_of_lt_succ (gF_lt h)) pc e h
  unfold gChk at h1
  cases hd : decode (gCode k) pc with
  | error x => rw [hd] at h1; exact absurd h1 (by simp)
  | ok q => rw [hd] at h1; exact ⟨q.1, q.2, rfl, h1⟩
