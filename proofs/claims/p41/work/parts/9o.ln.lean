theorem zi_zn (x : Int) : zi (zn x) = zi x := by
  show Value.int (Int32.ofInt (Int32.ofInt x).toInt) = Value.int (Int32.ofInt x)
  rw [Int32.ofInt_toInt]
theorem i32_m1 (x : Int32) : x / (-1) = -x := Int32.toInt_inj.mp (by rw [Int32.toInt_div, show (-1 : Int32).toInt = -1 by decide, Int.tdiv_neg, Int.tdiv_one, Int32.toInt_neg])
theorem zdiv_m1 (a : Int) : zi (zdiv a (-1)) = zi (-a) := by
  show Value.int (Int32.ofInt (Int32.ofInt a / Int32.ofInt (-1)).toInt) = Value.int (Int32.ofInt (-a))
  rw [Int32.ofInt_toInt, show Int32.ofInt (-1) = -1 by decide, i32_m1, Int32.ofInt_neg]
theorem zrem_m1 (a : Int) : zrem a (-1) = 0 := by
  show (Int32.ofInt a - Int32.ofInt a / Int32.ofInt (-1) * Int32.ofInt (-1)).toInt = 0
  rw [show Int32.ofInt (-1) = -1 by decide, i32_m1, Int32.mul_neg, Int32.mul_one, Int32.neg_neg, Int32.sub_self]
  rfl
/-- a stack's cells, the top first -/
def stk (J : zA) (p : Nat) : List Int → Prop
  | [] => True
  | v :: t => J p (t.length : Int) = v ∧ stk J p t
theorem stk_keep {J J2 : zA} {p : Nat} : ∀ t : List Int, stk J p t → (∀ j, 0 ≤ j → j < (t.length : Int) → J2 p j = J p j) → stk J2 p t := by
  intro t
  induction t with
  | nil => exact fun _ _ => trivial
  | cons v t ih =>
    intro h hk
    rw [List.length_cons] at hk
    exact ⟨(hk _ (by omega) (by omega)).trans h.1, ih h.2 (fun j j0 hj => hk j j0 (by omega))⟩
abbrev stR (st : List Int) : Prop := ∀ v ∈ st, -2147483648 ≤ v ∧ v < 2147483648
theorem nv_48 {e : en6} {s : Int} (h : nmd s) : s ≠ 48 := by omega
theorem joinC_124 {X : Nat × (Nat → Int32)} {d : Nat} {J M : zA} {R : zR} {a b : Int} (ra : -2147483648 ≤ a ∧ a < 2147483648) (rb : -2147483648 ≤ b ∧ b < 2147483648) : zW X d 41 0 (gEn 41 [(zi 124), (zi a), (zi b)]) [] J M R (zPu (jn 124 a b) J M R) := by
  show zW _ _ _ _ [some (zi 124), some (zi a), some (zi b)] _ _ _ _ _
  refine z_iload0 gi_41_0 ?_
  refine z_swI (tg := 92) gi_41_1 (by decide) (T := [((37 : Int), 177), ((38 : Int), 106), ((42 : Int), 161), ((43 : Int), 153), ((45 : Int), 157), ((47 : Int), 165), ((60 : Int), 120), ((61 : Int), 131), ((62 : Int), 142), ((124 : Int), 92)]) rfl (by decide) ?_
  refine z_iload1 rfl ?_
  refine z_if_ne rfl (by omega) (fun h1 => ?_) (fun h1 => ?_)
  · refine z_pushJ gp_41_100 ?_
    refine z_goto gi_41_101 ?_
    refine z_iret gi_41_105 gr_41 ?_
    refine ⟨congrArg (fun v => some (zi v)) (show 1 = (if a ≠ 0 ∨ b ≠ 0 then 1 else 0) from ?_), rfl, rfl, rfl⟩
    first | rw [if_pos (by omega)] | rw [if_neg (by omega)]
  · refine z_iload2 rfl ?_
    refine z_if_eq rfl (by omega) (fun h2 => ?_) (fun h2 => ?_)
    · refine z_pushJ gp_41_104 ?_
      refine z_iret gi_41_105 gr_41 ?_
      refine ⟨congrArg (fun v => some (zi v)) (show 0 = (if a ≠ 0 ∨ b ≠ 0 then 1 else 0) from ?_), rfl, rfl, rfl⟩
      first | rw [if_pos (by omega)] | rw [if_neg (by omega)]
    · refine z_pushJ gp_41_100 ?_
      refine z_goto gi_41_101 ?_
      refine z_iret gi_41_105 gr_41 ?_
      refine ⟨congrArg (fun v => some (zi v)) (show 1 = (if a ≠ 0 ∨ b ≠ 0 then 1 else 0) from ?_), rfl, rfl, rfl⟩
      first | rw [if_pos (by omega)] | rw [if_neg (by omega)]
theorem joinC_38 {X : Nat × (Nat → Int32)} {d : Nat} {J M : zA} {R : zR} {a b : Int} (ra : -2147483648 ≤ a ∧ a < 2147483648) (rb : -2147483648 ≤ b ∧ b < 2147483648) : zW X d 41 0 (gEn 41 [(zi 38), (zi a), (zi b)]) [] J M R (zPu (jn 38 a b) J M R) := by
  show zW _ _ _ _ [some (zi 38), some (zi a), some (zi b)] _ _ _ _ _
  refine z_iload0 gi_41_0 ?_
  refine z_swI (tg := 106) gi_41_1 (by decide) (T := [((37 : Int), 177), ((38 : Int), 106), ((42 : Int), 161), ((43 : Int), 153), ((45 : Int), 157), ((47 : Int), 165), ((60 : Int), 120), ((61 : Int), 131), ((62 : Int), 142), ((124 : Int), 92)]) rfl (by decide) ?_
  refine z_iload1 rfl ?_
  refine z_if_eq rfl (by omega) (fun h1 => ?_) (fun h1 => ?_)
  · refine z_pushJ gp_41_118 ?_
    refine z_iret gi_41_119 gr_41 ?_
    refine ⟨congrArg (fun v => some (zi v)) (show 0 = (if a ≠ 0 ∧ b ≠ 0 then 1 else 0) from ?_), rfl, rfl, rfl⟩
    first | rw [if_pos (by omega)] | rw [if_neg (by omega)]
  · refine z_iload2 rfl ?_
    refine z_if_eq rfl (by omega) (fun h2 => ?_) (fun h2 => ?_)
    · refine z_pushJ gp_41_118 ?_
      refine z_iret gi_41_119 gr_41 ?_
      refine ⟨congrArg (fun v => some (zi v)) (show 0 = (if a ≠ 0 ∧ b ≠ 0 then 1 else 0) from ?_), rfl, rfl, rfl⟩
      first | rw [if_pos (by omega)] | rw [if_neg (by omega)]
    · refine z_pushJ gp_41_114 ?_
      refine z_goto rfl ?_
      refine z_iret gi_41_119 gr_41 ?_
      refine ⟨congrArg (fun v => some (zi v)) (show 1 = (if a ≠ 0 ∧ b ≠ 0 then 1 else 0) from ?_), rfl, rfl, rfl⟩
      first | rw [if_pos (by omega)] | rw [if_neg (by omega)]
theorem joinC_60 {X : Nat × (Nat → Int32)} {d : Nat} {J M : zA} {R : zR} {a b : Int} (ra : -2147483648 ≤ a ∧ a < 2147483648) (rb : -2147483648 ≤ b ∧ b < 2147483648) : zW X d 41 0 (gEn 41 [(zi 60), (zi a), (zi b)]) [] J M R (zPu (jn 60 a b) J M R) := by
  show zW _ _ _ _ [some (zi 60), some (zi a), some (zi b)] _ _ _ _ _
  refine z_iload0 gi_41_0 ?_
  refine z_swI (tg := 120) gi_41_1 (by decide) (T := [((37 : Int), 177), ((38 : Int), 106), ((42 : Int), 161), ((43 : Int), 153), ((45 : Int), 157), ((47 : Int), 165), ((60 : Int), 120), ((61 : Int), 131), ((62 : Int), 142), ((124 : Int), 92)]) rfl (by decide) ?_
  refine z_iload1 rfl ?_
  refine z_iload2 rfl ?_
  refine z_icmp_ge rfl (by omega) (by omega) (fun h1 => ?_) (fun h1 => ?_)
  · refine z_pushJ gp_41_129 ?_
    refine z_iret gi_41_130 gr_41 ?_
    refine ⟨congrArg (fun v => some (zi v)) (show 0 = (if a < b then 1 else 0) from ?_), rfl, rfl, rfl⟩
    first | rw [if_pos (by omega)] | rw [if_neg (by omega)]
  · refine z_pushJ gp_41_125 ?_
    refine z_goto rfl ?_
    refine z_iret gi_41_130 gr_41 ?_
    refine ⟨congrArg (fun v => some (zi v)) (show 1 = (if a < b then 1 else 0) from ?_), rfl, rfl, rfl⟩
    first | rw [if_pos (by omega)] | rw [if_neg (by omega)]
theorem joinC_61 {X : Nat × (Nat → Int32)} {d : Nat} {J M : zA} {R : zR} {a b : Int} (ra : -2147483648 ≤ a ∧ a < 2147483648) (rb : -2147483648 ≤ b ∧ b < 2147483648) : zW X d 41 0 (gEn 41 [(zi 61), (zi a), (zi b)]) [] J M R (zPu (jn 61 a b) J M R) := by
  show zW _ _ _ _ [some (zi 61), some (zi a), some (zi b)] _ _ _ _ _
  refine z_iload0 gi_41_0 ?_
  refine z_swI (tg := 131) gi_41_1 (by decide) (T := [((37 : Int), 177), ((38 : Int), 106), ((42 : Int), 161), ((43 : Int), 153), ((45 : Int), 157), ((47 : Int), 165), ((60 : Int), 120), ((61 : Int), 131), ((62 : Int), 142), ((124 : Int), 92)]) rfl (by decide) ?_
  refine z_iload1 rfl ?_
  refine z_iload2 rfl ?_
  refine z_icmp_ne rfl (by omega) (by omega) (fun h1 => ?_) (fun h1 => ?_)
  · refine z_pushJ gp_41_140 ?_
    refine z_iret gi_41_141 gr_41 ?_
    refine ⟨congrArg (fun v => some (zi v)) (show 0 = (if a = b then 1 else 0) from ?_), rfl, rfl, rfl⟩
    first | rw [if_pos (by omega)] | rw [if_neg (by omega)]
  · refine z_pushJ gp_41_136 ?_
    refine z_goto rfl ?_
    refine z_iret gi_41_141 gr_41 ?_
    refine ⟨congrArg (fun v => some (zi v)) (show 1 = (if a = b then 1 else 0) from ?_), rfl, rfl, rfl⟩
    first | rw [if_pos (by omega)] | rw [if_neg (by omega)]
theorem joinC_62 {X : Nat × (Nat → Int32)} {d : Nat} {J M : zA} {R : zR} {a b : Int} (ra : -2147483648 ≤ a ∧ a < 2147483648) (rb : -2147483648 ≤ b ∧ b < 2147483648) : zW X d 41 0 (gEn 41 [(zi 62), (zi a), (zi b)]) [] J M R (zPu (jn 62 a b) J M R) := by
  show zW _ _ _ _ [some (zi 62), some (zi a), some (zi b)] _ _ _ _ _
  refine z_iload0 gi_41_0 ?_
  refine z_swI (tg := 142) gi_41_1 (by decide) (T := [((37 : Int), 177), ((38 : Int), 106), ((42 : Int), 161), ((43 : Int), 153), ((45 : Int), 157), ((47 : Int), 165), ((60 : Int), 120), ((61 : Int), 131), ((62 : Int), 142), ((124 : Int), 92)]) rfl (by decide) ?_
  refine z_iload1 rfl ?_
  refine z_iload2 rfl ?_
  refine z_icmp_le rfl (by omega) (by omega) (fun h1 => ?_) (fun h1 => ?_)
  · refine z_pushJ gp_41_151 ?_
    refine z_iret gi_41_152 gr_41 ?_
    refine ⟨congrArg (fun v => some (zi v)) (show 0 = (if b < a then 1 else 0) from ?_), rfl, rfl, rfl⟩
    first | rw [if_pos (by omega)] | rw [if_neg (by omega)]
  · refine z_pushJ gp_41_147 ?_
    refine z_goto rfl ?_
    refine z_iret gi_41_152 gr_41 ?_
    refine ⟨congrArg (fun v => some (zi v)) (show 1 = (if b < a then 1 else 0) from ?_), rfl, rfl, rfl⟩
    first | rw [if_pos (by omega)] | rw [if_neg (by omega)]
theorem joinC_43 {X : Nat × (Nat → Int32)} {d : Nat} {J M : zA} {R : zR} {a b : Int} (ra : -2147483648 ≤ a ∧ a < 2147483648) (rb : -2147483648 ≤ b ∧ b < 2147483648) : zW X d 41 0 (gEn 41 [(zi 43), (zi a), (zi b)]) [] J M R (zPu (jn 43 a b) J M R) := by
  show zW _ _ _ _ [some (zi 43), some (zi a), some (zi b)] _ _ _ _ _
  refine z_iload0 gi_41_0 ?_
  refine z_swI (tg := 153) gi_41_1 (by decide) (T := [((37 : Int), 177), ((38 : Int), 106), ((42 : Int), 161), ((43 : Int), 153), ((45 : Int), 157), ((47 : Int), 165), ((60 : Int), 120), ((61 : Int), 131), ((62 : Int), 142), ((124 : Int), 92)]) rfl (by decide) ?_
  refine z_iload1 rfl ?_
  refine z_iload2 rfl ?_
  refine z_iadd (e := a + b) rfl rfl ?_
  refine z_iret rfl gr_41 ?_
  refine ⟨?_, rfl, rfl, rfl⟩
  show some (zi (a + b)) = some (zi (zn (a + b)))
  rw [zi_zn]
theorem joinC_45 {X : Nat × (Nat → Int32)} {d : Nat} {J M : zA} {R : zR} {a b : Int} (ra : -2147483648 ≤ a ∧ a < 2147483648) (rb : -2147483648 ≤ b ∧ b < 2147483648) : zW X d 41 0 (gEn 41 [(zi 45), (zi a), (zi b)]) [] J M R (zPu (jn 45 a b) J M R) := by
  show zW _ _ _ _ [some (zi 45), some (zi a), some (zi b)] _ _ _ _ _
  refine z_iload0 gi_41_0 ?_
  refine z_swI (tg := 157) gi_41_1 (by decide) (T := [((37 : Int), 177), ((38 : Int), 106), ((42 : Int), 161), ((43 : Int), 153), ((45 : Int), 157), ((47 : Int), 165), ((60 : Int), 120), ((61 : Int), 131), ((62 : Int), 142), ((124 : Int), 92)]) rfl (by decide) ?_
  refine z_iload1 rfl ?_
  refine z_iload2 rfl ?_
  refine z_isub (e := a - b) rfl rfl ?_
  refine z_iret rfl gr_41 ?_
  refine ⟨?_, rfl, rfl, rfl⟩
  show some (zi (a - b)) = some (zi (zn (a - b)))
  rw [zi_zn]
theorem joinC_42 {X : Nat × (Nat → Int32)} {d : Nat} {J M : zA} {R : zR} {a b : Int} (ra : -2147483648 ≤ a ∧ a < 2147483648) (rb : -2147483648 ≤ b ∧ b < 2147483648) : zW X d 41 0 (gEn 41 [(zi 42), (zi a), (zi b)]) [] J M R (zPu (jn 42 a b) J M R) := by
  show zW _ _ _ _ [some (zi 42), some (zi a), some (zi b)] _ _ _ _ _
  refine z_iload0 gi_41_0 ?_
  refine z_swI (tg := 161) gi_41_1 (by decide) (T := [((37 : Int), 177), ((38 : Int), 106), ((42 : Int), 161), ((43 : Int), 153), ((45 : Int), 157), ((47 : Int), 165), ((60 : Int), 120), ((61 : Int), 131), ((62 : Int), 142), ((124 : Int), 92)]) rfl (by decide) ?_
  refine z_iload1 rfl ?_
  refine z_iload2 rfl ?_
  refine z_imul (e := a * b) rfl rfl ?_
  refine z_iret rfl gr_41 ?_
  refine ⟨?_, rfl, rfl, rfl⟩
  show some (zi (a * b)) = some (zi (zn (a * b)))
  rw [zi_zn]
theorem joinC_47 {X : Nat × (Nat → Int32)} {d : Nat} {J M : zA} {R : zR} {a b : Int} (ra : -2147483648 ≤ a ∧ a < 2147483648) (rb : -2147483648 ≤ b ∧ b < 2147483648) : zW X d 41 0 (gEn 41 [(zi 47), (zi a), (zi b)]) [] J M R (zPu (jn 47 a b) J M R) := by
  show zW _ _ _ _ [some (zi 47), some (zi a), some (zi b)] _ _ _ _ _
  refine z_iload0 gi_41_0 ?_
  refine z_swI (tg := 165) gi_41_1 (by decide) (T := [((37 : Int), 177), ((38 : Int), 106), ((42 : Int), 161), ((43 : Int), 153), ((45 : Int), 157), ((47 : Int), 165), ((60 : Int), 120), ((61 : Int), 131), ((62 : Int), 142), ((124 : Int), 92)]) rfl (by decide) ?_
  refine z_iload2 rfl ?_
  refine z_if_ne rfl (by omega) (fun h1 => ?_) (fun h1 => ?_)
  · refine z_iload1 rfl ?_
    refine z_iload2 rfl ?_
    refine z_idivg (e := zdiv a b) rfl (fun h => absurd (zi_inj (x := b) (y := 0) (by omega) (by omega) h) (by omega)) rfl ?_
    refine z_iret gi_41_176 gr_41 ?_
    refine ⟨congrArg (fun v => some (zi v)) (show zdiv a b = (if b = 0 then 0 else zdiv a b) from ?_), rfl, rfl, rfl⟩
    first | rw [if_pos (by omega)] | rw [if_neg (by omega)]
  · refine z_pushJ gp_41_169 ?_
    refine z_goto rfl ?_
    refine z_iret gi_41_176 gr_41 ?_
    refine ⟨congrArg (fun v => some (zi v)) (show 0 = (if b = 0 then 0 else zdiv a b) from ?_), rfl, rfl, rfl⟩
    first | rw [if_pos (by omega)] | rw [if_neg (by omega)]
theorem joinC_37 {X : Nat × (Nat → Int32)} {d : Nat} {J M : zA} {R : zR} {a b : Int} (ra : -2147483648 ≤ a ∧ a < 2147483648) (rb : -2147483648 ≤ b ∧ b < 2147483648) : zW X d 41 0 (gEn 41 [(zi 37), (zi a), (zi b)]) [] J M R (zPu (jn 37 a b) J M R) := by
  show zW _ _ _ _ [some (zi 37), some (zi a), some (zi b)] _ _ _ _ _
  refine z_iload0 gi_41_0 ?_
  refine z_swI (tg := 177) gi_41_1 (by decide) (T := [((37 : Int), 177), ((38 : Int), 106), ((42 : Int), 161), ((43 : Int), 153), ((45 : Int), 157), ((47 : Int), 165), ((60 : Int), 120), ((61 : Int), 131), ((62 : Int), 142), ((124 : Int), 92)]) rfl (by decide) ?_
  refine z_iload2 rfl ?_
  refine z_if_ne rfl (by omega) (fun h1 => ?_) (fun h1 => ?_)
  · refine z_iload1 rfl ?_
    refine z_iload2 rfl ?_
    refine z_iremg (e := zrem a b) rfl (fun h => absurd (zi_inj (x := b) (y := 0) (by omega) (by omega) h) (by omega)) rfl ?_
    refine z_iret gi_41_188 gr_41 ?_
    refine ⟨congrArg (fun v => some (zi v)) (show zrem a b = (if b = 0 then 0 else zrem a b) from ?_), rfl, rfl, rfl⟩
    first | rw [if_pos (by omega)] | rw [if_neg (by omega)]
  · refine z_pushJ gp_41_181 ?_
    refine z_goto rfl ?_
    refine z_iret gi_41_188 gr_41 ?_
    refine ⟨congrArg (fun v => some (zi v)) (show 0 = (if b = 0 then 0 else zrem a b) from ?_), rfl, rfl, rfl⟩
    first | rw [if_pos (by omega)] | rw [if_neg (by omega)]
theorem joinC {X : Nat × (Nat → Int32)} {d : Nat} {J M : zA} {R : zR} {s : Int} (h : 0 ≤ rk s) {a b : Int} (ra : -2147483648 ≤ a ∧ a < 2147483648) (rb : -2147483648 ≤ b ∧ b < 2147483648) : zW X d 41 0 (gEn 41 [zi s, zi a, zi b]) [] J M R (zPu (jn s a b) J M R) := by
  have e : s = 124 ∨ s = 38 ∨ s = 60 ∨ s = 61 ∨ s = 62 ∨ s = 43 ∨ s = 45 ∨ s = 42 ∨ s = 47 ∨ s = 37 := by
    unfold rk at h
    (repeat' split at h) <;> omega
  rcases e with rfl | rfl | rfl | rfl | rfl | rfl | rfl | rfl | rfl | rfl
  · exact joinC_124 ra rb
  · exact joinC_38 ra rb
  · exact joinC_60 ra rb
  · exact joinC_61 ra rb
  · exact joinC_62 ra rb
  · exact joinC_43 ra rb
  · exact joinC_45 ra rb
  · exact joinC_42 ra rb
  · exact joinC_47 ra rb
  · exact joinC_37 ra rb
theorem joinR_124 {X : Nat × (Nat → Int32)} {d : Nat} {J M : zA} {R : zR} {a b : Int} (ra : -2147483648 ≤ a ∧ a < 2147483648) (rb : -2147483648 ≤ b ∧ b < 2147483648) : zW X d 179 0 (gEn 179 [(zi 124), (zi a), (zi b)]) [] J M R (zPu (jn 124 a b) J M R) := by
  show zW _ _ _ _ [some (zi 124), some (zi a), some (zi b)] _ _ _ _ _
  refine z_iload0 gi_179_0 ?_
  refine z_swO (T := [((37 : Int), 154), ((38 : Int), 204), ((39 : Int), 218), ((40 : Int), 218), ((41 : Int), 218), ((42 : Int), 128), ((43 : Int), 120), ((44 : Int), 218), ((45 : Int), 124), ((46 : Int), 218), ((47 : Int), 132), ((48 : Int), 218), ((49 : Int), 218), ((50 : Int), 218), ((51 : Int), 218), ((52 : Int), 218), ((53 : Int), 218), ((54 : Int), 218), ((55 : Int), 218), ((56 : Int), 218), ((57 : Int), 218), ((58 : Int), 218), ((59 : Int), 218), ((60 : Int), 171), ((61 : Int), 182), ((62 : Int), 193)]) gi_179_1 (by decide) rfl (by decide) ?_
  refine z_iload1 rfl ?_
  refine z_if_ne rfl (by omega) (fun h1 => ?_) (fun h1 => ?_)
  · refine z_pushJ gp_179_226 ?_
    refine z_goto gi_179_227 ?_
    refine z_iret gi_179_231 gr_179 ?_
    refine ⟨congrArg (fun v => some (zi v)) (show 1 = (if a ≠ 0 ∨ b ≠ 0 then 1 else 0) from ?_), rfl, rfl, rfl⟩
    first | rw [if_pos (by omega)] | rw [if_neg (by omega)]
  · refine z_iload2 rfl ?_
    refine z_if_eq rfl (by omega) (fun h2 => ?_) (fun h2 => ?_)
    · refine z_pushJ gp_179_230 ?_
      refine z_iret gi_179_231 gr_179 ?_
      refine ⟨congrArg (fun v => some (zi v)) (show 0 = (if a ≠ 0 ∨ b ≠ 0 then 1 else 0) from ?_), rfl, rfl, rfl⟩
      first | rw [if_pos (by omega)] | rw [if_neg (by omega)]
    · refine z_pushJ gp_179_226 ?_
      refine z_goto gi_179_227 ?_
      refine z_iret gi_179_231 gr_179 ?_
      refine ⟨congrArg (fun v => some (zi v)) (show 1 = (if a ≠ 0 ∨ b ≠ 0 then 1 else 0) from ?_), rfl, rfl, rfl⟩
      first | rw [if_pos (by omega)] | rw [if_neg (by omega)]
theorem joinR_38 {X : Nat × (Nat → Int32)} {d : Nat} {J M : zA} {R : zR} {a b : Int} (ra : -2147483648 ≤ a ∧ a < 2147483648) (rb : -2147483648 ≤ b ∧ b < 2147483648) : zW X d 179 0 (gEn 179 [(zi 38), (zi a), (zi b)]) [] J M R (zPu (jn 38 a b) J M R) := by
  show zW _ _ _ _ [some (zi 38), some (zi a), some (zi b)] _ _ _ _ _
  refine z_iload0 gi_179_0 ?_
  refine z_swI (tg := 204) gi_179_1 (by decide) (T := [((37 : Int), 154), ((38 : Int), 204), ((39 : Int), 218), ((40 : Int), 218), ((41 : Int), 218), ((42 : Int), 128), ((43 : Int), 120), ((44 : Int), 218), ((45 : Int), 124), ((46 : Int), 218), ((47 : Int), 132), ((48 : Int), 218), ((49 : Int), 218), ((50 : Int), 218), ((51 : Int), 218), ((52 : Int), 218), ((53 : Int), 218), ((54 : Int), 218), ((55 : Int), 218), ((56 : Int), 218), ((57 : Int), 218), ((58 : Int), 218), ((59 : Int), 218), ((60 : Int), 171), ((61 : Int), 182), ((62 : Int), 193)]) rfl (by decide) ?_
  refine z_iload1 rfl ?_
  refine z_if_eq rfl (by omega) (fun h1 => ?_) (fun h1 => ?_)
  · refine z_pushJ gp_179_216 ?_
    refine z_iret gi_179_217 gr_179 ?_
    refine ⟨congrArg (fun v => some (zi v)) (show 0 = (if a ≠ 0 ∧ b ≠ 0 then 1 else 0) from ?_), rfl, rfl, rfl⟩
    first | rw [if_pos (by omega)] | rw [if_neg (by omega)]
  · refine z_iload2 rfl ?_
    refine z_if_eq rfl (by omega) (fun h2 => ?_) (fun h2 => ?_)
    · refine z_pushJ gp_179_216 ?_
      refine z_iret gi_179_217 gr_179 ?_
      refine ⟨congrArg (fun v => some (zi v)) (show 0 = (if a ≠ 0 ∧ b ≠ 0 then 1 else 0) from ?_), rfl, rfl, rfl⟩
      first | rw [if_pos (by omega)] | rw [if_neg (by omega)]
    · refine z_pushJ gp_179_212 ?_
      refine z_goto rfl ?_
      refine z_iret gi_179_217 gr_179 ?_
      refine ⟨congrArg (fun v => some (zi v)) (show 1 = (if a ≠ 0 ∧ b ≠ 0 then 1 else 0) from ?_), rfl, rfl, rfl⟩
      first | rw [if_pos (by omega)] | rw [if_neg (by omega)]
theorem joinR_60 {X : Nat × (Nat → Int32)} {d : Nat} {J M : zA} {R : zR} {a b : Int} (ra : -2147483648 ≤ a ∧ a < 2147483648) (rb : -2147483648 ≤ b ∧ b < 2147483648) : zW X d 179 0 (gEn 179 [(zi 60), (zi a), (zi b)]) [] J M R (zPu (jn 60 a b) J M R) := by
  show zW _ _ _ _ [some (zi 60), some (zi a), some (zi b)] _ _ _ _ _
  refine z_iload0 gi_179_0 ?_
  refine z_swI (tg := 171) gi_179_1 (by decide) (T := [((37 : Int), 154), ((38 : Int), 204), ((39 : Int), 218), ((40 : Int), 218), ((41 : Int), 218), ((42 : Int), 128), ((43 : Int), 120), ((44 : Int), 218), ((45 : Int), 124), ((46 : Int), 218), ((47 : Int), 132), ((48 : Int), 218), ((49 : Int), 218), ((50 : Int), 218), ((51 : Int), 218), ((52 : Int), 218), ((53 : Int), 218), ((54 : Int), 218), ((55 : Int), 218), ((56 : Int), 218), ((57 : Int), 218), ((58 : Int), 218), ((59 : Int), 218), ((60 : Int), 171), ((61 : Int), 182), ((62 : Int), 193)]) rfl (by decide) ?_
  refine z_iload1 rfl ?_
  refine z_iload2 rfl ?_
  refine z_icmp_ge rfl (by omega) (by omega) (fun h1 => ?_) (fun h1 => ?_)
  · refine z_pushJ gp_179_180 ?_
    refine z_iret gi_179_181 gr_179 ?_
    refine ⟨congrArg (fun v => some (zi v)) (show 0 = (if a < b then 1 else 0) from ?_), rfl, rfl, rfl⟩
    first | rw [if_pos (by omega)] | rw [if_neg (by omega)]
  · refine z_pushJ gp_179_176 ?_
    refine z_goto rfl ?_
    refine z_iret gi_179_181 gr_179 ?_
    refine ⟨congrArg (fun v => some (zi v)) (show 1 = (if a < b then 1 else 0) from ?_), rfl, rfl, rfl⟩
    first | rw [if_pos (by omega)] | rw [if_neg (by omega)]
theorem joinR_61 {X : Nat × (Nat → Int32)} {d : Nat} {J M : zA} {R : zR} {a b : Int} (ra : -2147483648 ≤ a ∧ a < 2147483648) (rb : -2147483648 ≤ b ∧ b < 2147483648) : zW X d 179 0 (gEn 179 [(zi 61), (zi a), (zi b)]) [] J M R (zPu (jn 61 a b) J M R) := by
  show zW _ _ _ _ [some (zi 61), some (zi a), some (zi b)] _ _ _ _ _
  refine z_iload0 gi_179_0 ?_
  refine z_swI (tg := 182) gi_179_1 (by decide) (T := [((37 : Int), 154), ((38 : Int), 204), ((39 : Int), 218), ((40 : Int), 218), ((41 : Int), 218), ((42 : Int), 128), ((43 : Int), 120), ((44 : Int), 218), ((45 : Int), 124), ((46 : Int), 218), ((47 : Int), 132), ((48 : Int), 218), ((49 : Int), 218), ((50 : Int), 218), ((51 : Int), 218), ((52 : Int), 218), ((53 : Int), 218), ((54 : Int), 218), ((55 : Int), 218), ((56 : Int), 218), ((57 : Int), 218), ((58 : Int), 218), ((59 : Int), 218), ((60 : Int), 171), ((61 : Int), 182), ((62 : Int), 193)]) rfl (by decide) ?_
  refine z_iload1 rfl ?_
  refine z_iload2 rfl ?_
  refine z_icmp_ne rfl (by omega) (by omega) (fun h1 => ?_) (fun h1 => ?_)
  · refine z_pushJ gp_179_191 ?_
    refine z_iret gi_179_192 gr_179 ?_
    refine ⟨congrArg (fun v => some (zi v)) (show 0 = (if a = b then 1 else 0) from ?_), rfl, rfl, rfl⟩
    first | rw [if_pos (by omega)] | rw [if_neg (by omega)]
  · refine z_pushJ gp_179_187 ?_
    refine z_goto rfl ?_
    refine z_iret gi_179_192 gr_179 ?_
    refine ⟨congrArg (fun v => some (zi v)) (show 1 = (if a = b then 1 else 0) from ?_), rfl, rfl, rfl⟩
    first | rw [if_pos (by omega)] | rw [if_neg (by omega)]
theorem joinR_62 {X : Nat × (Nat → Int32)} {d : Nat} {J M : zA} {R : zR} {a b : Int} (ra : -2147483648 ≤ a ∧ a < 2147483648) (rb : -2147483648 ≤ b ∧ b < 2147483648) : zW X d 179 0 (gEn 179 [(zi 62), (zi a), (zi b)]) [] J M R (zPu (jn 62 a b) J M R) := by
  show zW _ _ _ _ [some (zi 62), some (zi a), some (zi b)] _ _ _ _ _
  refine z_iload0 gi_179_0 ?_
  refine z_swI (tg := 193) gi_179_1 (by decide) (T := [((37 : Int), 154), ((38 : Int), 204), ((39 : Int), 218), ((40 : Int), 218), ((41 : Int), 218), ((42 : Int), 128), ((43 : Int), 120), ((44 : Int), 218), ((45 : Int), 124), ((46 : Int), 218), ((47 : Int), 132), ((48 : Int), 218), ((49 : Int), 218), ((50 : Int), 218), ((51 : Int), 218), ((52 : Int), 218), ((53 : Int), 218), ((54 : Int), 218), ((55 : Int), 218), ((56 : Int), 218), ((57 : Int), 218), ((58 : Int), 218), ((59 : Int), 218), ((60 : Int), 171), ((61 : Int), 182), ((62 : Int), 193)]) rfl (by decide) ?_
  refine z_iload1 rfl ?_
  refine z_iload2 rfl ?_
  refine z_icmp_le rfl (by omega) (by omega) (fun h1 => ?_) (fun h1 => ?_)
  · refine z_pushJ gp_179_202 ?_
    refine z_iret gi_179_203 gr_179 ?_
    refine ⟨congrArg (fun v => some (zi v)) (show 0 = (if b < a then 1 else 0) from ?_), rfl, rfl, rfl⟩
    first | rw [if_pos (by omega)] | rw [if_neg (by omega)]
  · refine z_pushJ gp_179_198 ?_
    refine z_goto rfl ?_
    refine z_iret gi_179_203 gr_179 ?_
    refine ⟨congrArg (fun v => some (zi v)) (show 1 = (if b < a then 1 else 0) from ?_), rfl, rfl, rfl⟩
    first | rw [if_pos (by omega)] | rw [if_neg (by omega)]
theorem joinR_43 {X : Nat × (Nat → Int32)} {d : Nat} {J M : zA} {R : zR} {a b : Int} (ra : -2147483648 ≤ a ∧ a < 2147483648) (rb : -2147483648 ≤ b ∧ b < 2147483648) : zW X d 179 0 (gEn 179 [(zi 43), (zi a), (zi b)]) [] J M R (zPu (jn 43 a b) J M R) := by
  show zW _ _ _ _ [some (zi 43), some (zi a), some (zi b)] _ _ _ _ _
  refine z_iload0 gi_179_0 ?_
  refine z_swI (tg := 120) gi_179_1 (by decide) (T := [((37 : Int), 154), ((38 : Int), 204), ((39 : Int), 218), ((40 : Int), 218), ((41 : Int), 218), ((42 : Int), 128), ((43 : Int), 120), ((44 : Int), 218), ((45 : Int), 124), ((46 : Int), 218), ((47 : Int), 132), ((48 : Int), 218), ((49 : Int), 218), ((50 : Int), 218), ((51 : Int), 218), ((52 : Int), 218), ((53 : Int), 218), ((54 : Int), 218), ((55 : Int), 218), ((56 : Int), 218), ((57 : Int), 218), ((58 : Int), 218), ((59 : Int), 218), ((60 : Int), 171), ((61 : Int), 182), ((62 : Int), 193)]) rfl (by decide) ?_
  refine z_iload1 rfl ?_
  refine z_iload2 rfl ?_
  refine z_iadd (e := a + b) rfl rfl ?_
  refine z_iret rfl gr_179 ?_
  refine ⟨?_, rfl, rfl, rfl⟩
  show some (zi (a + b)) = some (zi (zn (a + b)))
  rw [zi_zn]
theorem joinR_45 {X : Nat × (Nat → Int32)} {d : Nat} {J M : zA} {R : zR} {a b : Int} (ra : -2147483648 ≤ a ∧ a < 2147483648) (rb : -2147483648 ≤ b ∧ b < 2147483648) : zW X d 179 0 (gEn 179 [(zi 45), (zi a), (zi b)]) [] J M R (zPu (jn 45 a b) J M R) := by
  show zW _ _ _ _ [some (zi 45), some (zi a), some (zi b)] _ _ _ _ _
  refine z_iload0 gi_179_0 ?_
  refine z_swI (tg := 124) gi_179_1 (by decide) (T := [((37 : Int), 154), ((38 : Int), 204), ((39 : Int), 218), ((40 : Int), 218), ((41 : Int), 218), ((42 : Int), 128), ((43 : Int), 120), ((44 : Int), 218), ((45 : Int), 124), ((46 : Int), 218), ((47 : Int), 132), ((48 : Int), 218), ((49 : Int), 218), ((50 : Int), 218), ((51 : Int), 218), ((52 : Int), 218), ((53 : Int), 218), ((54 : Int), 218), ((55 : Int), 218), ((56 : Int), 218), ((57 : Int), 218), ((58 : Int), 218), ((59 : Int), 218), ((60 : Int), 171), ((61 : Int), 182), ((62 : Int), 193)]) rfl (by decide) ?_
  refine z_iload1 rfl ?_
  refine z_iload2 rfl ?_
  refine z_isub (e := a - b) rfl rfl ?_
  refine z_iret rfl gr_179 ?_
  refine ⟨?_, rfl, rfl, rfl⟩
  show some (zi (a - b)) = some (zi (zn (a - b)))
  rw [zi_zn]
theorem joinR_42 {X : Nat × (Nat → Int32)} {d : Nat} {J M : zA} {R : zR} {a b : Int} (ra : -2147483648 ≤ a ∧ a < 2147483648) (rb : -2147483648 ≤ b ∧ b < 2147483648) : zW X d 179 0 (gEn 179 [(zi 42), (zi a), (zi b)]) [] J M R (zPu (jn 42 a b) J M R) := by
  show zW _ _ _ _ [some (zi 42), some (zi a), some (zi b)] _ _ _ _ _
  refine z_iload0 gi_179_0 ?_
  refine z_swI (tg := 128) gi_179_1 (by decide) (T := [((37 : Int), 154), ((38 : Int), 204), ((39 : Int), 218), ((40 : Int), 218), ((41 : Int), 218), ((42 : Int), 128), ((43 : Int), 120), ((44 : Int), 218), ((45 : Int), 124), ((46 : Int), 218), ((47 : Int), 132), ((48 : Int), 218), ((49 : Int), 218), ((50 : Int), 218), ((51 : Int), 218), ((52 : Int), 218), ((53 : Int), 218), ((54 : Int), 218), ((55 : Int), 218), ((56 : Int), 218), ((57 : Int), 218), ((58 : Int), 218), ((59 : Int), 218), ((60 : Int), 171), ((61 : Int), 182), ((62 : Int), 193)]) rfl (by decide) ?_
  refine z_iload1 rfl ?_
  refine z_iload2 rfl ?_
  refine z_imul (e := a * b) rfl rfl ?_
  refine z_iret rfl gr_179 ?_
  refine ⟨?_, rfl, rfl, rfl⟩
  show some (zi (a * b)) = some (zi (zn (a * b)))
  rw [zi_zn]
theorem joinR_47 {X : Nat × (Nat → Int32)} {d : Nat} {J M : zA} {R : zR} {a b : Int} (ra : -2147483648 ≤ a ∧ a < 2147483648) (rb : -2147483648 ≤ b ∧ b < 2147483648) : zW X d 179 0 (gEn 179 [(zi 47), (zi a), (zi b)]) [] J M R (zPu (jn 47 a b) J M R) := by
  show zW _ _ _ _ [some (zi 47), some (zi a), some (zi b)] _ _ _ _ _
  refine z_iload0 gi_179_0 ?_
  refine z_swI (tg := 132) gi_179_1 (by decide) (T := [((37 : Int), 154), ((38 : Int), 204), ((39 : Int), 218), ((40 : Int), 218), ((41 : Int), 218), ((42 : Int), 128), ((43 : Int), 120), ((44 : Int), 218), ((45 : Int), 124), ((46 : Int), 218), ((47 : Int), 132), ((48 : Int), 218), ((49 : Int), 218), ((50 : Int), 218), ((51 : Int), 218), ((52 : Int), 218), ((53 : Int), 218), ((54 : Int), 218), ((55 : Int), 218), ((56 : Int), 218), ((57 : Int), 218), ((58 : Int), 218), ((59 : Int), 218), ((60 : Int), 171), ((61 : Int), 182), ((62 : Int), 193)]) rfl (by decide) ?_
  refine z_iload2 rfl ?_
  refine z_if_ne rfl (by omega) (fun h1 => ?_) (fun h1 => ?_)
  · refine z_iload2 rfl ?_
    refine z_pushJ gp_179_141 ?_
    refine z_icmp_ne rfl (by omega) zrn_1 (fun h2 => ?_) (fun h2 => ?_)
    · refine z_iload1 rfl ?_
      refine z_iload2 rfl ?_
      refine z_idivg (e := zdiv a b) rfl (fun h => absurd (zi_inj (x := b) (y := 0) (by omega) (by omega) h) (by omega)) rfl ?_
      refine z_iret gi_179_153 gr_179 ?_
      refine ⟨congrArg (fun v => some (zi v)) (show zdiv a b = (if b = 0 then 0 else zdiv a b) from ?_), rfl, rfl, rfl⟩
      first | rw [if_pos (by omega)] | rw [if_neg (by omega)]
    · refine z_iload1 rfl ?_
      refine z_ineg (e := -a) rfl rfl ?_
      refine z_goto rfl ?_
      refine z_iret gi_179_153 gr_179 ?_
      refine ⟨?_, rfl, rfl, rfl⟩
      have eb : b = -1 := by omega
      subst eb
      show some (zi (-a)) = some (zi (if (-1 : Int) = 0 then 0 else zdiv a (-1)))
      rw [if_neg (by decide), zdiv_m1]
  · refine z_pushJ gp_179_136 ?_
    refine z_goto rfl ?_
    refine z_iret gi_179_153 gr_179 ?_
    refine ⟨congrArg (fun v => some (zi v)) (show 0 = (if b = 0 then 0 else zdiv a b) from ?_), rfl, rfl, rfl⟩
    first | rw [if_pos (by omega)] | rw [if_neg (by omega)]
theorem joinR_37 {X : Nat × (Nat → Int32)} {d : Nat} {J M : zA} {R : zR} {a b : Int} (ra : -2147483648 ≤ a ∧ a < 2147483648) (rb : -2147483648 ≤ b ∧ b < 2147483648) : zW X d 179 0 (gEn 179 [(zi 37), (zi a), (zi b)]) [] J M R (zPu (jn 37 a b) J M R) := by
  show zW _ _ _ _ [some (zi 37), some (zi a), some (zi b)] _ _ _ _ _
  refine z_iload0 gi_179_0 ?_
  refine z_swI (tg := 154) gi_179_1 (by decide) (T := [((37 : Int), 154), ((38 : Int), 204), ((39 : Int), 218), ((40 : Int), 218), ((41 : Int), 218), ((42 : Int), 128), ((43 : Int), 120), ((44 : Int), 218), ((45 : Int), 124), ((46 : Int), 218), ((47 : Int), 132), ((48 : Int), 218), ((49 : Int), 218), ((50 : Int), 218), ((51 : Int), 218), ((52 : Int), 218), ((53 : Int), 218), ((54 : Int), 218), ((55 : Int), 218), ((56 : Int), 218), ((57 : Int), 218), ((58 : Int), 218), ((59 : Int), 218), ((60 : Int), 171), ((61 : Int), 182), ((62 : Int), 193)]) rfl (by decide) ?_
  refine z_iload2 rfl ?_
  refine z_if_eq rfl (by omega) (fun h1 => ?_) (fun h1 => ?_)
  · refine z_pushJ gp_179_163 ?_
    refine z_goto gi_179_164 ?_
    refine z_iret gi_179_170 gr_179 ?_
    refine ⟨?_, rfl, rfl, rfl⟩
    show some (zi 0) = some (zi (if b = 0 then 0 else zrem a b))
    by_cases eb : b = 0
    · rw [if_pos eb]
    · have e1 : b = -1 := by omega
      rw [if_neg eb, e1, zrem_m1]
  · refine z_iload2 rfl ?_
    refine z_pushJ gp_179_159 ?_
    refine z_icmp_ne rfl (by omega) zrn_1 (fun h2 => ?_) (fun h2 => ?_)
    · refine z_iload1 rfl ?_
      refine z_iload2 rfl ?_
      refine z_iremg (e := zrem a b) rfl (fun h => absurd (zi_inj (x := b) (y := 0) (by omega) (by omega) h) (by omega)) rfl ?_
      refine z_iret gi_179_170 gr_179 ?_
      refine ⟨congrArg (fun v => some (zi v)) (show zrem a b = (if b = 0 then 0 else zrem a b) from ?_), rfl, rfl, rfl⟩
      first | rw [if_pos (by omega)] | rw [if_neg (by omega)]
    · refine z_pushJ gp_179_163 ?_
      refine z_goto gi_179_164 ?_
      refine z_iret gi_179_170 gr_179 ?_
      refine ⟨?_, rfl, rfl, rfl⟩
      show some (zi 0) = some (zi (if b = 0 then 0 else zrem a b))
      by_cases eb : b = 0
      · rw [if_pos eb]
      · have e1 : b = -1 := by omega
        rw [if_neg eb, e1, zrem_m1]
theorem joinR {X : Nat × (Nat → Int32)} {d : Nat} {J M : zA} {R : zR} {s : Int} (h : 0 ≤ rk s) {a b : Int} (ra : -2147483648 ≤ a ∧ a < 2147483648) (rb : -2147483648 ≤ b ∧ b < 2147483648) : zW X d 179 0 (gEn 179 [zi s, zi a, zi b]) [] J M R (zPu (jn s a b) J M R) := by
  have e : s = 124 ∨ s = 38 ∨ s = 60 ∨ s = 61 ∨ s = 62 ∨ s = 43 ∨ s = 45 ∨ s = 42 ∨ s = 47 ∨ s = 37 := by
    unfold rk at h
    (repeat' split at h) <;> omega
  rcases e with rfl | rfl | rfl | rfl | rfl | rfl | rfl | rfl | rfl | rfl
  · exact joinR_124 ra rb
  · exact joinR_38 ra rb
  · exact joinR_60 ra rb
  · exact joinR_61 ra rb
  · exact joinR_62 ra rb
  · exact joinR_43 ra rb
  · exact joinR_45 ra rb
  · exact joinR_42 ra rb
  · exact joinR_47 ra rb
  · exact joinR_37 ra rb
theorem push_k {X : Nat × (Nat → Int32)} {d : Nat} {J M : zA} {R : zR} (hR : zRok R) {n v : Int} (hn : J 1 10 = n) (hn0 : 0 ≤ n ∧ n < 121) : zW X d 42 0 (gEn 42 [(.ref 1), (zi v)]) [] J M R (zPx none (zU (zU J 7 n v) 1 10 (n + 1)) M R) := by
  show zW _ _ _ _ [some (.ref 1), some (zi v)] _ _ _ _ _
  refine z_aload0 rfl ?_
  refine z_getI (v := n) rfl gk_1 (hn) ?_
  refine z_pushJ gp_42_4 ?_
  refine z_icmp_ltT rfl (by omega) zr_121 (by omega) ?_
  refine z_aload0 rfl ?_
  refine z_getR (r := 7) rfl gk_1 (hR _ rm_1_9) ?_
  refine z_aload0 rfl ?_
  refine z_getI (v := n) rfl gk_1 (hn) ?_
  refine z_iload1 rfl ?_
  refine z_iast (e := v) rfl gk_7 (by decide) (by omega) rfl ?_
  refine z_aload0 rfl ?_
  refine z_dup rfl rfl ?_
  refine z_getI (v := n) rfl gk_1 ((zU_n (by decide)).trans (hn)) ?_
  refine z_pushJ gp_42_25 ?_
  refine z_iadd (e := n + 1) rfl rfl ?_
  refine z_putI (y := 10) rfl rfl gk_1 ?_
  refine z_vret rfl gr_42 ?_
  exact ⟨rfl, rfl, rfl, rfl⟩
theorem pop_k {X : Nat × (Nat → Int32)} {d : Nat} {J M : zA} {R : zR} (hR : zRok R) {n v : Int} (hn : J 1 10 = n) (hn0 : 1 ≤ n ∧ n ≤ 121) (hv : J 7 (n - 1) = v) : zW X d 43 0 (gEn 43 [(.ref 1)]) [] J M R (zPx (some (zi v)) (zU J 1 10 (n - 1)) M R) := by
  show zW _ _ _ _ [some (.ref 1)] _ _ _ _ _
  refine z_aload0 rfl ?_
  refine z_getI (v := n) rfl gk_1 (hn) ?_
  refine z_if_gtT rfl (by omega) (by omega) ?_
  refine z_aload0 rfl ?_
  refine z_dup rfl rfl ?_
  refine z_getI (v := n) rfl gk_1 (hn) ?_
  refine z_pushJ gp_43_14 ?_
  refine z_isub (e := n - 1) rfl rfl ?_
  refine z_putI (y := 10) rfl rfl gk_1 ?_
  refine z_aload0 rfl ?_
  refine z_getR (r := 7) rfl gk_1 (hR _ rm_1_9) ?_
  refine z_aload0 rfl ?_
  refine z_getI (v := n - 1) rfl gk_1 (zU_e) ?_
  refine z_iald (v := v) rfl gk_7 (by decide) (by omega) ((zU_n (by decide)).trans (hv)) ?_
  refine z_iret rfl gr_43 ?_
  exact ⟨rfl, rfl, rfl, rfl⟩
