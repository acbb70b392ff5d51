theorem st_keep {X : Nat × (Nat → Int32)} {d : Nat} {J M : zA} {R : zR} {s b : Int} (hr : Rel X J M R) (hs : -2147483648 ≤ s ∧ s < 2147483648) (hb : -2147483648 ≤ b ∧ b < 2147483648) : zW X (d + 20) 136 0 (gEn 136 [(.ref 0), (zi s), (zi b)]) [] J M R (stP X (d + 20) 249 [(zi s), (zi b)]) := by
  by_cases hs6 : 0 ≤ s ∧ s < 6
  · have q : s = 0 ∨ s = 1 ∨ s = 2 ∨ s = 3 ∨ s = 4 ∨ s = 5 := by omega
    rcases q with rfl | rfl | rfl | rfl | rfl | rfl
    · exact st_keep_0 hr hb
    · exact st_keep_1 hr hb
    · exact st_keep_2 hr hb
    · exact st_keep_3 hr hb
    · exact st_keep_4 hr hb
    · exact st_keep_5 hr hb
  · exact st_keep_n hr hs hb hs6
theorem st_element {X : Nat × (Nat → Int32)} {d : Nat} {J M : zA} {R : zR} {s i : Int} (hr : Rel X J M R) (hs : -2147483648 ≤ s ∧ s < 2147483648) (hi : -2147483648 ≤ i ∧ i < 2147483648) : zW X (d + 20) 139 0 (gEn 139 [(.ref 0), (zi s), (zi i)]) [] J M R (stL X (d + 20) 253 [(zi s), (zi i)]) := by
  by_cases hs6 : 0 ≤ s ∧ s < 6
  · have q : s = 0 ∨ s = 1 ∨ s = 2 ∨ s = 3 ∨ s = 4 ∨ s = 5 := by omega
    rcases q with rfl | rfl | rfl | rfl | rfl | rfl
    · have hS : RelS J M := hr.2.2.2.2.2.2.2.1
      have h2 := (hS 0 (by decide) (by decide)).2.1
      have h3 : 0 ≤ J 38 0 ∧ J 38 0 ≤ 2 := h2
      have h4 : J 38 0 = 0 ∨ J 38 0 = 1 ∨ J 38 0 = 2 := by omega
      rcases h4 with hh | hh | hh
      · exact st_element_00 hr hi hh
      · exact st_element_01 hr hi hh
      · exact st_element_02 hr hi hh
    · have hS : RelS J M := hr.2.2.2.2.2.2.2.1
      have h2 := (hS 1 (by decide) (by decide)).2.1
      have h3 : 0 ≤ J 40 0 ∧ J 40 0 ≤ 2 := h2
      have h4 : J 40 0 = 0 ∨ J 40 0 = 1 ∨ J 40 0 = 2 := by omega
      rcases h4 with hh | hh | hh
      · exact st_element_10 hr hi hh
      · exact st_element_11 hr hi hh
      · exact st_element_12 hr hi hh
    · have hS : RelS J M := hr.2.2.2.2.2.2.2.1
      have h2 := (hS 2 (by decide) (by decide)).2.1
      have h3 : 0 ≤ J 42 0 ∧ J 42 0 ≤ 2 := h2
      have h4 : J 42 0 = 0 ∨ J 42 0 = 1 ∨ J 42 0 = 2 := by omega
      rcases h4 with hh | hh | hh
      · exact st_element_20 hr hi hh
      · exact st_element_21 hr hi hh
      · exact st_element_22 hr hi hh
    · have hS : RelS J M := hr.2.2.2.2.2.2.2.1
      have h2 := (hS 3 (by decide) (by decide)).2.1
      have h3 : 0 ≤ J 44 0 ∧ J 44 0 ≤ 2 := h2
      have h4 : J 44 0 = 0 ∨ J 44 0 = 1 ∨ J 44 0 = 2 := by omega
      rcases h4 with hh | hh | hh
      · exact st_element_30 hr hi hh
      · exact st_element_31 hr hi hh
      · exact st_element_32 hr hi hh
    · have hS : RelS J M := hr.2.2.2.2.2.2.2.1
      have h2 := (hS 4 (by decide) (by decide)).2.1
      have h3 : 0 ≤ J 46 0 ∧ J 46 0 ≤ 2 := h2
      have h4 : J 46 0 = 0 ∨ J 46 0 = 1 ∨ J 46 0 = 2 := by omega
      rcases h4 with hh | hh | hh
      · exact st_element_40 hr hi hh
      · exact st_element_41 hr hi hh
      · exact st_element_42 hr hi hh
    · have hS : RelS J M := hr.2.2.2.2.2.2.2.1
      have h2 := (hS 5 (by decide) (by decide)).2.1
      have h3 : 0 ≤ J 48 0 ∧ J 48 0 ≤ 2 := h2
      have h4 : J 48 0 = 0 ∨ J 48 0 = 1 ∨ J 48 0 = 2 := by omega
      rcases h4 with hh | hh | hh
      · exact st_element_50 hr hi hh
      · exact st_element_51 hr hi hh
      · exact st_element_52 hr hi hh
  · exact st_element_n hr hs hi hs6
theorem st_put {X : Nat × (Nat → Int32)} {d : Nat} {J M : zA} {R : zR} {s i v : Int} (hr : Rel X J M R) (hs : -2147483648 ≤ s ∧ s < 2147483648) (hi : -2147483648 ≤ i ∧ i < 2147483648) (hv : -9223372036854775808 ≤ v ∧ v < 9223372036854775808) : zW X (d + 20) 138 0 (gEn 138 [(.ref 0), (zi s), (zi i), (zl v)]) [] J M R (stP X (d + 20) 252 [(zi s), (zi i), (zl v)]) := by
  by_cases hs6 : 0 ≤ s ∧ s < 6
  · have q : s = 0 ∨ s = 1 ∨ s = 2 ∨ s = 3 ∨ s = 4 ∨ s = 5 := by omega
    rcases q with rfl | rfl | rfl | rfl | rfl | rfl
    · have hS : RelS J M := hr.2.2.2.2.2.2.2.1
      have h2 := (hS 0 (by decide) (by decide)).2.1
      have h3 : 0 ≤ J 38 0 ∧ J 38 0 ≤ 2 := h2
      have h4 : J 38 0 = 0 ∨ J 38 0 = 1 ∨ J 38 0 = 2 := by omega
      rcases h4 with hh | hh | hh
      · exact st_put_00 hr hi hv hh
      · exact st_put_01 hr hi hv hh
      · have h5 : 0 ≤ J 38 2 ∧ J 38 2 ≤ 4 := (hS 0 (by decide) (by decide)).2.2.1
        have h6 : J 38 2 = 0 ∨ J 38 2 = 1 ∨ J 38 2 = 2 ∨ J 38 2 = 3 ∨ J 38 2 = 4 := by omega
        rcases h6 with h6 | h6 | h6 | h6 | h6
        · exact st_put_020 hr hi hv hh h6
        · exact st_put_021 hr hi hv hh h6
        · exact st_put_022 hr hi hv hh h6
        · exact st_put_023 hr hi hv hh h6
        · exact st_put_024 hr hi hv hh h6
    · have hS : RelS J M := hr.2.2.2.2.2.2.2.1
      have h2 := (hS 1 (by decide) (by decide)).2.1
      have h3 : 0 ≤ J 40 0 ∧ J 40 0 ≤ 2 := h2
      have h4 : J 40 0 = 0 ∨ J 40 0 = 1 ∨ J 40 0 = 2 := by omega
      rcases h4 with hh | hh | hh
      · exact st_put_10 hr hi hv hh
      · exact st_put_11 hr hi hv hh
      · have h5 : 0 ≤ J 40 2 ∧ J 40 2 ≤ 4 := (hS 1 (by decide) (by decide)).2.2.1
        have h6 : J 40 2 = 0 ∨ J 40 2 = 1 ∨ J 40 2 = 2 ∨ J 40 2 = 3 ∨ J 40 2 = 4 := by omega
        rcases h6 with h6 | h6 | h6 | h6 | h6
        · exact st_put_120 hr hi hv hh h6
        · exact st_put_121 hr hi hv hh h6
        · exact st_put_122 hr hi hv hh h6
        · exact st_put_123 hr hi hv hh h6
        · exact st_put_124 hr hi hv hh h6
    · have hS : RelS J M := hr.2.2.2.2.2.2.2.1
      have h2 := (hS 2 (by decide) (by decide)).2.1
      have h3 : 0 ≤ J 42 0 ∧ J 42 0 ≤ 2 := h2
      have h4 : J 42 0 = 0 ∨ J 42 0 = 1 ∨ J 42 0 = 2 := by omega
      rcases h4 with hh | hh | hh
      · exact st_put_20 hr hi hv hh
      · exact st_put_21 hr hi hv hh
      · have h5 : 0 ≤ J 42 2 ∧ J 42 2 ≤ 4 := (hS 2 (by decide) (by decide)).2.2.1
        have h6 : J 42 2 = 0 ∨ J 42 2 = 1 ∨ J 42 2 = 2 ∨ J 42 2 = 3 ∨ J 42 2 = 4 := by omega
        rcases h6 with h6 | h6 | h6 | h6 | h6
        · exact st_put_220 hr hi hv hh h6
        · exact st_put_221 hr hi hv hh h6
        · exact st_put_222 hr hi hv hh h6
        · exact st_put_223 hr hi hv hh h6
        · exact st_put_224 hr hi hv hh h6
    · have hS : RelS J M := hr.2.2.2.2.2.2.2.1
      have h2 := (hS 3 (by decide) (by decide)).2.1
      have h3 : 0 ≤ J 44 0 ∧ J 44 0 ≤ 2 := h2
      have h4 : J 44 0 = 0 ∨ J 44 0 = 1 ∨ J 44 0 = 2 := by omega
      rcases h4 with hh | hh | hh
      · exact st_put_30 hr hi hv hh
      · exact st_put_31 hr hi hv hh
      · have h5 : 0 ≤ J 44 2 ∧ J 44 2 ≤ 4 := (hS 3 (by decide) (by decide)).2.2.1
        have h6 : J 44 2 = 0 ∨ J 44 2 = 1 ∨ J 44 2 = 2 ∨ J 44 2 = 3 ∨ J 44 2 = 4 := by omega
        rcases h6 with h6 | h6 | h6 | h6 | h6
        · exact st_put_320 hr hi hv hh h6
        · exact st_put_321 hr hi hv hh h6
        · exact st_put_322 hr hi hv hh h6
        · exact st_put_323 hr hi hv hh h6
        · exact st_put_324 hr hi hv hh h6
    · have hS : RelS J M := hr.2.2.2.2.2.2.2.1
      have h2 := (hS 4 (by decide) (by decide)).2.1
      have h3 : 0 ≤ J 46 0 ∧ J 46 0 ≤ 2 := h2
      have h4 : J 46 0 = 0 ∨ J 46 0 = 1 ∨ J 46 0 = 2 := by omega
      rcases h4 with hh | hh | hh
      · exact st_put_40 hr hi hv hh
      · exact st_put_41 hr hi hv hh
      · have h5 : 0 ≤ J 46 2 ∧ J 46 2 ≤ 4 := (hS 4 (by decide) (by decide)).2.2.1
        have h6 : J 46 2 = 0 ∨ J 46 2 = 1 ∨ J 46 2 = 2 ∨ J 46 2 = 3 ∨ J 46 2 = 4 := by omega
        rcases h6 with h6 | h6 | h6 | h6 | h6
        · exact st_put_420 hr hi hv hh h6
        · exact st_put_421 hr hi hv hh h6
        · exact st_put_422 hr hi hv hh h6
        · exact st_put_423 hr hi hv hh h6
        · exact st_put_424 hr hi hv hh h6
    · have hS : RelS J M := hr.2.2.2.2.2.2.2.1
      have h2 := (hS 5 (by decide) (by decide)).2.1
      have h3 : 0 ≤ J 48 0 ∧ J 48 0 ≤ 2 := h2
      have h4 : J 48 0 = 0 ∨ J 48 0 = 1 ∨ J 48 0 = 2 := by omega
      rcases h4 with hh | hh | hh
      · exact st_put_50 hr hi hv hh
      · exact st_put_51 hr hi hv hh
      · have h5 : 0 ≤ J 48 2 ∧ J 48 2 ≤ 4 := (hS 5 (by decide) (by decide)).2.2.1
        have h6 : J 48 2 = 0 ∨ J 48 2 = 1 ∨ J 48 2 = 2 ∨ J 48 2 = 3 ∨ J 48 2 = 4 := by omega
        rcases h6 with h6 | h6 | h6 | h6 | h6
        · exact st_put_520 hr hi hv hh h6
        · exact st_put_521 hr hi hv hh h6
        · exact st_put_522 hr hi hv hh h6
        · exact st_put_523 hr hi hv hh h6
        · exact st_put_524 hr hi hv hh h6
  · exact st_put_n hr hs hi hv hs6
theorem st_back {X : Nat × (Nat → Int32)} {d : Nat} {J M : zA} {R : zR} (hr : Rel X J M R) : zW X (d + 20) 130 0 (gEn 130 [(.ref 0)]) [] J M R (stP X (d + 20) 229 []) := by
  have hP : RelP J := hr.2.2.2.2.1
  rcases hP.2.1 with h08 | h08
  · exact st_back_0 hr h08
  · exact st_back_1 hr h08
