/-- the memory, told in whole numbers -/
abbrev zA : Type := Nat → Int → Int
abbrev zR : Type := Nat → Nat → Option Nat
abbrev zP : Type := Option Value → zA → zA → zR → Prop
noncomputable abbrev zi (e : Int) : Value := .int (Int32.ofInt e)
noncomputable abbrev zl (e : Int) : Value := .long (Int64.ofInt e)
noncomputable def zI (J : zA) : Nat → Nat → Int32 := fun a j => Int32.ofInt (J a j)
noncomputable def zL (M : zA) : Nat → Nat → Int64 := fun a j => Int64.ofInt (M a j)
noncomputable def zQ (P : zP) : gQ := fun r σ => ∃ J M R, σ = (gK 87, zI J, zL M, R) ∧ P r J M R
noncomputable def zU (J : zA) (a : Nat) (x v : Int) : zA := fun b y => if b = a then (if y = x then v else J b y) else J b y
def zW (X : Nat × (Nat → Int32)) (d k pc : Nat) (ls : List (Option Value)) (st : List Value) (J M : zA) (R : zR) (P : zP) : Prop := gW X d k pc 0 0 ls st (gK 87, zI J, zL M, R) (zQ P)
noncomputable def zand (x y : Int) : Int := (Int32.ofInt x &&& Int32.ofInt y).toInt
noncomputable def zor (x y : Int) : Int := (Int32.ofInt x ||| Int32.ofInt y).toInt
noncomputable def zxor (x y : Int) : Int := (Int32.ofInt x ^^^ Int32.ofInt y).toInt
noncomputable def zshl (x y : Int) : Int := (Int32.ofInt x <<< (Int32.ofInt y &&& 31)).toInt
noncomputable def zshr (x y : Int) : Int := (Int32.ofInt x >>> (Int32.ofInt y &&& 31)).toInt
noncomputable def zushr (x y : Int) : Int := ((Int32.ofInt x).toUInt32 >>> ((Int32.ofInt y).toUInt32 &&& Int32.toUInt32 31)).toInt32.toInt
noncomputable def zdiv (x y : Int) : Int := (Int32.ofInt x / Int32.ofInt y).toInt
noncomputable def zrem (x y : Int) : Int := (Int32.ofInt x - Int32.ofInt x / Int32.ofInt y * Int32.ofInt y).toInt
noncomputable def zb (x : Int) : Int := (Int32.ofInt x).toInt8.toInt32.toInt
noncomputable def zh (x : Int) : Int := (Int32.ofInt x).toInt16.toInt32.toInt
noncomputable def zn (x : Int) : Int := (Int32.ofInt x).toInt
noncomputable def zlland (x y : Int) : Int := (Int64.ofInt x &&& Int64.ofInt y).toInt
noncomputable def zllor (x y : Int) : Int := (Int64.ofInt x ||| Int64.ofInt y).toInt
noncomputable def zllshl (x y : Int) : Int := (Int64.ofInt x <<< ((Int32.ofInt y).toInt64 &&& 63)).toInt
noncomputable def zT (j : Nat) (x : Int) : Int := ((gZt j).getD x.toNat 0).toInt
theorem zi_eq (x : Int32) : Int32.ofInt x.toInt = x := Int32.ofInt_toInt x
theorem zl_eq (x : Int64) : Int64.ofInt x.toInt = x := Int64.ofInt_toInt x
theorem zi_r {x : Int} (h : (-2147483648 ≤ x ∧ x < 2147483648)) : (Int32.ofInt x).toInt = x := Int32.toInt_ofInt_of_le (by omega) (by omega)
theorem zl_r {x : Int} (h : (-9223372036854775808 ≤ x ∧ x < 9223372036854775808)) : (Int64.ofInt x).toInt = x := Int64.toInt_ofInt_of_le (by omega) (by omega)
theorem zi_inj {x y : Int} (hx : (-2147483648 ≤ x ∧ x < 2147483648)) (hy : (-2147483648 ≤ y ∧ y < 2147483648)) (h : Int32.ofInt x = Int32.ofInt y) : x = y := by
  rw [← zi_r hx, ← zi_r hy, h]
theorem zl_inj {x y : Int} (hx : (-9223372036854775808 ≤ x ∧ x < 9223372036854775808)) (hy : (-9223372036854775808 ≤ y ∧ y < 9223372036854775808)) (h : Int64.ofInt x = Int64.ofInt y) : x = y := by
  rw [← zl_r hx, ← zl_r hy, h]
theorem zi_lt {x y : Int} (hx : (-2147483648 ≤ x ∧ x < 2147483648)) (hy : (-2147483648 ≤ y ∧ y < 2147483648)) : Int32.ofInt x < Int32.ofInt y ↔ x < y := by
  rw [Int32.lt_iff_toInt_lt, zi_r hx, zi_r hy]
theorem zi_le {x y : Int} (hx : (-2147483648 ≤ x ∧ x < 2147483648)) (hy : (-2147483648 ≤ y ∧ y < 2147483648)) : Int32.ofInt x ≤ Int32.ofInt y ↔ x ≤ y := by
  rw [Int32.le_iff_toInt_le, zi_r hx, zi_r hy]
theorem zl_lt {x y : Int} (hx : (-9223372036854775808 ≤ x ∧ x < 9223372036854775808)) (hy : (-9223372036854775808 ≤ y ∧ y < 9223372036854775808)) : Int64.ofInt x < Int64.ofInt y ↔ x < y := by
  rw [Int64.lt_iff_toInt_lt, zl_r hx, zl_r hy]
theorem zl_le {x y : Int} (hx : (-9223372036854775808 ≤ x ∧ x < 9223372036854775808)) (hy : (-9223372036854775808 ≤ y ∧ y < 9223372036854775808)) : Int64.ofInt x ≤ Int64.ofInt y ↔ x ≤ y := by
  rw [Int64.le_iff_toInt_le, zl_r hx, zl_r hy]
theorem zi_nat {x : Int} (h : (-2147483648 ≤ x ∧ x < 2147483648)) : (Int32.ofInt x).toNatClampNeg = x.toNat := Int32.toNatClampNeg_ofInt_of_le (by omega) (by omega)
theorem zI_get {J : zA} {a : Nat} {x : Int} (h : 0 ≤ x) : zI J a x.toNat = Int32.ofInt (J a x) := by
  unfold zI
  rw [Int.toNat_of_nonneg h]
theorem zL_get {M : zA} {a : Nat} {x : Int} (h : 0 ≤ x) : zL M a x.toNat = Int64.ofInt (M a x) := by
  unfold zL
  rw [Int.toNat_of_nonneg h]
theorem zI_put {J : zA} {a : Nat} {x v : Int} (h : 0 ≤ x) : gU (zI J) a x.toNat (Int32.ofInt v) = zI (zU J a x v) := by
  funext b j
  unfold gU zI zU
  by_cases h1 : b = a
  · by_cases h2 : j = x.toNat
    · rw [if_pos h1, if_pos h2, if_pos h1, if_pos (by omega)]
    · rw [if_pos h1, if_neg h2, if_pos h1, if_neg (by omega)]
  · rw [if_neg h1, if_neg h1]
theorem zL_put {J : zA} {a : Nat} {x v : Int} (h : 0 ≤ x) : gU (zL J) a x.toNat (Int64.ofInt v) = zL (zU J a x v) := by
  funext b j
  unfold gU zL zU
  by_cases h1 : b = a
  · by_cases h2 : j = x.toNat
    · rw [if_pos h1, if_pos h2, if_pos h1, if_pos (by omega)]
    · rw [if_pos h1, if_neg h2, if_pos h1, if_neg (by omega)]
  · rw [if_neg h1, if_neg h1]
theorem zI_of (I : Nat → Nat → Int32) : I = zI (fun a j => (I a j.toNat).toInt) := by
  funext a j
  show I a j = Int32.ofInt ((I a ((j : Int)).toNat).toInt)
  rw [Int.toNat_natCast, Int32.ofInt_toInt]
theorem zL_of (L : Nat → Nat → Int64) : L = zL (fun a j => (L a j.toNat).toInt) := by
  funext a j
  show L a j = Int64.ofInt ((L a ((j : Int)).toNat).toInt)
  rw [Int.toNat_natCast, Int64.ofInt_toInt]
theorem zin {x : Int} {n : Nat} (hx : 0 ≤ x ∧ x < n) (hn : n ≤ 100000) : vp_in (Int32.ofInt x) n := by
  have r : (-2147483648 ≤ x ∧ x < 2147483648) := by omega
  unfold vp_in
  rw [zi_nat r, Int32.lt_iff_toInt_lt, zi_r r]
  have : (0 : Int32).toInt = 0 := rfl
  omega
theorem zi0 : Int32.ofInt 0 = 0 := rfl
theorem zU_e {J : zA} {a : Nat} {x v : Int} : zU J a x v a x = v := by unfold zU; rw [if_pos rfl, if_pos rfl]
theorem zU_ex {J : zA} {a : Nat} {x y v : Int} (h : y = x) : zU J a x v a y = v := by unfold zU; rw [if_pos rfl, if_pos h]
theorem zU_n {J : zA} {a b : Nat} {x y v : Int} (h : b ≠ a) : zU J a x v b y = J b y := by unfold zU; rw [if_neg h]
theorem zU_x {J : zA} {a b : Nat} {x y v : Int} (h : y ≠ x) : zU J a x v b y = J b y := by
  unfold zU
  by_cases h1 : b = a
  · rw [if_pos h1, if_neg h]
  · rw [if_neg h1]
theorem zU_i {J : zA} {a : Nat} {x y v : Int} : zU J a x v a y = if y = x then v else J a y := by unfold zU; rw [if_pos rfl]
theorem zU_U {J : zA} {a : Nat} {x v w : Int} : zU (zU J a x v) a x w = zU J a x w := by
  funext b y
  unfold zU
  by_cases h1 : b = a
  · by_cases h2 : y = x
    · simp [h1, h2]
    · simp [h1, h2]
  · simp [h1]
theorem zU_id {J : zA} {a : Nat} {x v : Int} (h : J a x = v) : zU J a x v = J := by
  funext b y
  unfold zU
  by_cases h1 : b = a
  · by_cases h2 : y = x
    · rw [if_pos h1, if_pos h2, h1, h2, h]
    · rw [if_pos h1, if_neg h2]
  · rw [if_neg h1]
/-- the memories are the same where k says so -/
def zK (k : Nat → Int → Bool) (A J : zA) : Prop := ∀ x j, k x j = true → J x j = A x j
theorem zK_r {k : Nat → Int → Bool} {A : zA} : zK k A A := fun _ _ _ => rfl
theorem zK_t {k : Nat → Int → Bool} {A J J' : zA} (h : zK k A J) (h' : zK k J J') : zK k A J' := fun x j q => (h' x j q).trans (h x j q)
theorem zK_s {k : Nat → Int → Bool} {A J : zA} (h : zK k A J) : zK k J A := fun x j q => (h x j q).symm
theorem zK_m {k l : Nat → Int → Bool} {A J : zA} (h : zK k A J) (hm : ∀ x j, l x j = true → k x j = true) : zK l A J := fun x j q => h x j (hm x j q)
theorem zK_u {k : Nat → Int → Bool} {A J : zA} {a : Nat} {x v : Int} (h : zK k A J) : zK k (zU A a x v) (zU J a x v) := fun b y q => by
  unfold zU
  by_cases h1 : b = a
  · by_cases h2 : y = x
    · rw [if_pos h1, if_pos h2, if_pos h1, if_pos h2]
    · rw [if_pos h1, if_neg h2, if_pos h1, if_neg h2, h b y q]
  · rw [if_neg h1, if_neg h1, h b y q]
theorem zK_x {k : Nat → Int → Bool} {A J : zA} {a : Nat} {x v : Int} (h : zK k A J) (hk : k a x = false) : zK k A (zU J a x v) := fun b y q => by
  unfold zU
  by_cases h1 : b = a
  · by_cases h2 : y = x
    · rw [h1, h2, hk] at q; cases q
    · rw [if_pos h1, if_neg h2, h b y q]
  · rw [if_neg h1, h b y q]

theorem z_pushI {X : Nat × (Nat → Int32)} {d k pc nx : Nat} {ls : List (Option Value)} {st : List Value} {J M : zA} {R : zR} {P : zP} {v : Int32} {z : Int} (h0 : gF k pc = some (0, nx, 0, 0, v, 0)) (hv : v = Int32.ofInt z) (kk : zW X d k nx (ls) (zi z :: st) J M R P) : zW X d k pc (ls) (st) J M R P := by
  subst hv
  exact w_pushI h0 kk
theorem z_pushL {X : Nat × (Nat → Int32)} {d k pc nx : Nat} {ls : List (Option Value)} {st : List Value} {J M : zA} {R : zR} {P : zP} {w : Int64} {z : Int} (h0 : gF k pc = some (1, nx, 0, 0, 0, w)) (hv : w = Int64.ofInt z) (kk : zW X d k nx (ls) (zl z :: st) J M R P) : zW X d k pc (ls) (st) J M R P := by
  subst hv
  exact w_pushL h0 kk
theorem z_iload {X : Nat × (Nat → Int32)} {d k pc nx : Nat} {ls : List (Option Value)} {st : List Value} {J M : zA} {R : zR} {P : zP} {i : Nat} {x : Int32} (h0 : gF k pc = some (2, nx, i, 0, 0, 0)) (h1 : ls[i]? = some (some (.int x))) (kk : zW X d k nx (ls) (.int x :: st) J M R P) : zW X d k pc (ls) (st) J M R P := w_iload h0 h1 kk
theorem z_lload {X : Nat × (Nat → Int32)} {d k pc nx : Nat} {ls : List (Option Value)} {st : List Value} {J M : zA} {R : zR} {P : zP} {i : Nat} {x : Int64} (h0 : gF k pc = some (6, nx, i, 0, 0, 0)) (h1 : ls[i]? = some (some (.long x))) (kk : zW X d k nx (ls) (.long x :: st) J M R P) : zW X d k pc (ls) (st) J M R P := w_lload h0 h1 kk
theorem z_aload {X : Nat × (Nat → Int32)} {d k pc nx : Nat} {ls : List (Option Value)} {st : List Value} {J M : zA} {R : zR} {P : zP} {i x : Nat} (h0 : gF k pc = some (7, nx, i, 0, 0, 0)) (h1 : ls[i]? = some (some (.ref x))) (kk : zW X d k nx (ls) (.ref x :: st) J M R P) : zW X d k pc (ls) (st) J M R P := w_aload h0 h1 kk
theorem z_istore {X : Nat × (Nat → Int32)} {d k pc nx : Nat} {ls : List (Option Value)} {st : List Value} {J M : zA} {R : zR} {P : zP} {i : Nat} {x : Int32} {ls1 : List (Option Value)} (h0 : gF k pc = some (3, nx, i, 0, 0, 0)) (h1 : gSet ls i (.int x) = ls1) (kk : zW X d k nx (ls1) (st) J M R P) : zW X d k pc (ls) (.int x :: st) J M R P := w_istore h0 h1 kk
theorem z_lstore {X : Nat × (Nat → Int32)} {d k pc nx : Nat} {ls : List (Option Value)} {st : List Value} {J M : zA} {R : zR} {P : zP} {i : Nat} {x : Int64} {ls1 : List (Option Value)} (h0 : gF k pc = some (4, nx, i, 0, 0, 0)) (h1 : gSet ls i (.long x) = ls1) (kk : zW X d k nx (ls1) (st) J M R P) : zW X d k pc (ls) (.long x :: st) J M R P := w_lstore h0 h1 kk
theorem z_astore {X : Nat × (Nat → Int32)} {d k pc nx : Nat} {ls : List (Option Value)} {st : List Value} {J M : zA} {R : zR} {P : zP} {i : Nat} {x : Nat} {ls1 : List (Option Value)} (h0 : gF k pc = some (5, nx, i, 0, 0, 0)) (h1 : gSet ls i (.ref x) = ls1) (kk : zW X d k nx (ls1) (st) J M R P) : zW X d k pc (ls) (.ref x :: st) J M R P := w_astore h0 h1 kk
theorem z_iinc {X : Nat × (Nat → Int32)} {d k pc nx : Nat} {ls : List (Option Value)} {st : List Value} {J M : zA} {R : zR} {P : zP} {i : Nat} {v : Int32} {x c e : Int} {ls1 : List (Option Value)} (h0 : gF k pc = some (8, nx, i, 0, v, 0)) (h1 : ls[i]? = some (some (zi x))) (hv : v = Int32.ofInt c) (he : x + c = e) (hs : gSet ls i (zi e) = ls1) (kk : zW X d k nx (ls1) (st) J M R P) : zW X d k pc (ls) (st) J M R P := by
  subst hv
  subst he
  refine w_iinc h0 h1 ?_ kk
  rw [← Int32.ofInt_add]
  exact hs
theorem z_iadd {X : Nat × (Nat → Int32)} {d k pc nx : Nat} {ls : List (Option Value)} {st : List Value} {J M : zA} {R : zR} {P : zP} {x y e : Int} (h0 : gF k pc = some (10, nx, 0, 0, 0, 0)) (he : x + y = e) (kk : zW X d k nx (ls) (zi e :: st) J M R P) : zW X d k pc (ls) (zi y :: zi x :: st) J M R P := by
  subst he
  refine w_iadd h0 ?_
  rw [← Int32.ofInt_add]
  exact kk
theorem z_ladd {X : Nat × (Nat → Int32)} {d k pc nx : Nat} {ls : List (Option Value)} {st : List Value} {J M : zA} {R : zR} {P : zP} {x y e : Int} (h0 : gF k pc = some (22, nx, 0, 0, 0, 0)) (he : x + y = e) (kk : zW X d k nx (ls) (zl e :: st) J M R P) : zW X d k pc (ls) (zl y :: zl x :: st) J M R P := by
  subst he
  refine w_ladd h0 ?_
  rw [← Int64.ofInt_add]
  exact kk
theorem z_isub {X : Nat × (Nat → Int32)} {d k pc nx : Nat} {ls : List (Option Value)} {st : List Value} {J M : zA} {R : zR} {P : zP} {x y e : Int} (h0 : gF k pc = some (11, nx, 0, 0, 0, 0)) (he : x - y = e) (kk : zW X d k nx (ls) (zi e :: st) J M R P) : zW X d k pc (ls) (zi y :: zi x :: st) J M R P := by
  subst he
  refine w_isub h0 ?_
  rw [← Int32.ofInt_sub]
  exact kk
theorem z_lsub {X : Nat × (Nat → Int32)} {d k pc nx : Nat} {ls : List (Option Value)} {st : List Value} {J M : zA} {R : zR} {P : zP} {x y e : Int} (h0 : gF k pc = some (23, nx, 0, 0, 0, 0)) (he : x - y = e) (kk : zW X d k nx (ls) (zl e :: st) J M R P) : zW X d k pc (ls) (zl y :: zl x :: st) J M R P := by
  subst he
  refine w_lsub h0 ?_
  rw [← Int64.ofInt_sub]
  exact kk
theorem z_imul {X : Nat × (Nat → Int32)} {d k pc nx : Nat} {ls : List (Option Value)} {st : List Value} {J M : zA} {R : zR} {P : zP} {x y e : Int} (h0 : gF k pc = some (12, nx, 0, 0, 0, 0)) (he : x * y = e) (kk : zW X d k nx (ls) (zi e :: st) J M R P) : zW X d k pc (ls) (zi y :: zi x :: st) J M R P := by
  subst he
  refine w_imul h0 ?_
  rw [← Int32.ofInt_mul]
  exact kk
theorem z_lmul {X : Nat × (Nat → Int32)} {d k pc nx : Nat} {ls : List (Option Value)} {st : List Value} {J M : zA} {R : zR} {P : zP} {x y e : Int} (h0 : gF k pc = some (24, nx, 0, 0, 0, 0)) (he : x * y = e) (kk : zW X d k nx (ls) (zl e :: st) J M R P) : zW X d k pc (ls) (zl y :: zl x :: st) J M R P := by
  subst he
  refine w_lmul h0 ?_
  rw [← Int64.ofInt_mul]
  exact kk
theorem z_ineg {X : Nat × (Nat → Int32)} {d k pc nx : Nat} {ls : List (Option Value)} {st : List Value} {J M : zA} {R : zR} {P : zP} {x e : Int} (h0 : gF k pc = some (21, nx, 0, 0, 0, 0)) (he : -x = e) (kk : zW X d k nx (ls) (zi e :: st) J M R P) : zW X d k pc (ls) (zi x :: st) J M R P := by
  subst he
  refine w_ineg h0 ?_
  rw [← Int32.ofInt_neg]
  exact kk
theorem z_iand {X : Nat × (Nat → Int32)} {d k pc nx : Nat} {ls : List (Option Value)} {st : List Value} {J M : zA} {R : zR} {P : zP} {x y e : Int} (h0 : gF k pc = some (13, nx, 0, 0, 0, 0)) (he : zand x y = e) (kk : zW X d k nx (ls) (zi e :: st) J M R P) : zW X d k pc (ls) (zi y :: zi x :: st) J M R P := by
  subst he
  refine w_iand h0 ?_
  have kk : zW X d k nx ls (.int (Int32.ofInt (zand x y)) :: st) J M R P := kk
  unfold zand at kk
  rw [Int32.ofInt_toInt] at kk
  exact kk
theorem z_ior {X : Nat × (Nat → Int32)} {d k pc nx : Nat} {ls : List (Option Value)} {st : List Value} {J M : zA} {R : zR} {P : zP} {x y e : Int} (h0 : gF k pc = some (14, nx, 0, 0, 0, 0)) (he : zor x y = e) (kk : zW X d k nx (ls) (zi e :: st) J M R P) : zW X d k pc (ls) (zi y :: zi x :: st) J M R P := by
  subst he
  refine w_ior h0 ?_
  have kk : zW X d k nx ls (.int (Int32.ofInt (zor x y)) :: st) J M R P := kk
  unfold zor at kk
  rw [Int32.ofInt_toInt] at kk
  exact kk
theorem z_ixor {X : Nat × (Nat → Int32)} {d k pc nx : Nat} {ls : List (Option Value)} {st : List Value} {J M : zA} {R : zR} {P : zP} {x y e : Int} (h0 : gF k pc = some (15, nx, 0, 0, 0, 0)) (he : zxor x y = e) (kk : zW X d k nx (ls) (zi e :: st) J M R P) : zW X d k pc (ls) (zi y :: zi x :: st) J M R P := by
  subst he
  refine w_ixor h0 ?_
  have kk : zW X d k nx ls (.int (Int32.ofInt (zxor x y)) :: st) J M R P := kk
  unfold zxor at kk
  rw [Int32.ofInt_toInt] at kk
  exact kk
theorem z_ishl {X : Nat × (Nat → Int32)} {d k pc nx : Nat} {ls : List (Option Value)} {st : List Value} {J M : zA} {R : zR} {P : zP} {x y e : Int} (h0 : gF k pc = some (16, nx, 0, 0, 0, 0)) (he : zshl x y = e) (kk : zW X d k nx (ls) (zi e :: st) J M R P) : zW X d k pc (ls) (zi y :: zi x :: st) J M R P := by
  subst he
  refine w_ishl h0 ?_
  have kk : zW X d k nx ls (.int (Int32.ofInt (zshl x y)) :: st) J M R P := kk
  unfold zshl at kk
  rw [Int32.ofInt_toInt] at kk
  exact kk
theorem z_ishr {X : Nat × (Nat → Int32)} {d k pc nx : Nat} {ls : List (Option Value)} {st : List Value} {J M : zA} {R : zR} {P : zP} {x y e : Int} (h0 : gF k pc = some (17, nx, 0, 0, 0, 0)) (he : zshr x y = e) (kk : zW X d k nx (ls) (zi e :: st) J M R P) : zW X d k pc (ls) (zi y :: zi x :: st) J M R P := by
  subst he
  refine w_ishr h0 ?_
  have kk : zW X d k nx ls (.int (Int32.ofInt (zshr x y)) :: st) J M R P := kk
  unfold zshr at kk
  rw [Int32.ofInt_toInt] at kk
  exact kk
theorem z_iushr {X : Nat × (Nat → Int32)} {d k pc nx : Nat} {ls : List (Option Value)} {st : List Value} {J M : zA} {R : zR} {P : zP} {x y e : Int} (h0 : gF k pc = some (18, nx, 0, 0, 0, 0)) (he : zushr x y = e) (kk : zW X d k nx (ls) (zi e :: st) J M R P) : zW X d k pc (ls) (zi y :: zi x :: st) J M R P := by
  subst he
  refine w_iushr h0 ?_
  have kk : zW X d k nx ls (.int (Int32.ofInt (zushr x y)) :: st) J M R P := kk
  unfold zushr at kk
  rw [Int32.ofInt_toInt] at kk
  exact kk
theorem z_idiv {X : Nat × (Nat → Int32)} {d k pc nx : Nat} {ls : List (Option Value)} {st : List Value} {J M : zA} {R : zR} {P : zP} {x y e : Int} (h0 : gF k pc = some (19, nx, 0, 0, 0, 0)) (hx : 0 ≤ x ∧ x < 2147483648) (hy : 0 < y ∧ y < 2147483648) (he : x / y = e) (kk : zW X d k nx (ls) (zi e :: st) J M R P) : zW X d k pc (ls) (zi y :: zi x :: st) J M R P := by
  subst he
  have e0 : Int32.ofInt x / Int32.ofInt y = Int32.ofInt (x / y) := by
    rw [← Int.tdiv_eq_ediv_of_nonneg hx.1]
    exact (Int32.ofInt_tdiv (show (-2147483648 : Int) ≤ x by omega) (show x ≤ (2147483647 : Int) by omega) (show (-2147483648 : Int) ≤ y by omega) (show y ≤ (2147483647 : Int) by omega)).symm
  refine w_idiv h0 (fun h => absurd (zi_inj (x := y) (y := 0) (by omega) (by omega) h) (by omega)) ?_
  rw [e0]
  exact kk
theorem z_idivg {X : Nat × (Nat → Int32)} {d k pc nx : Nat} {ls : List (Option Value)} {st : List Value} {J M : zA} {R : zR} {P : zP} {x y e : Int} (h0 : gF k pc = some (19, nx, 0, 0, 0, 0)) (hy : ¬ Int32.ofInt y = 0) (he : zdiv x y = e) (kk : zW X d k nx (ls) (zi e :: st) J M R P) : zW X d k pc (ls) (zi y :: zi x :: st) J M R P := by
  subst he
  refine w_idiv h0 hy ?_
  have kk : zW X d k nx ls (.int (Int32.ofInt (zdiv x y)) :: st) J M R P := kk
  unfold zdiv at kk
  rw [Int32.ofInt_toInt] at kk
  exact kk
theorem z_irem {X : Nat × (Nat → Int32)} {d k pc nx : Nat} {ls : List (Option Value)} {st : List Value} {J M : zA} {R : zR} {P : zP} {x y e : Int} (h0 : gF k pc = some (20, nx, 0, 0, 0, 0)) (hx : 0 ≤ x ∧ x < 2147483648) (hy : 0 < y ∧ y < 2147483648) (he : x % y = e) (kk : zW X d k nx (ls) (zi e :: st) J M R P) : zW X d k pc (ls) (zi y :: zi x :: st) J M R P := by
  subst he
  have e0 : Int32.ofInt x / Int32.ofInt y = Int32.ofInt (x / y) := by
    rw [← Int.tdiv_eq_ediv_of_nonneg hx.1]
    exact (Int32.ofInt_tdiv (show (-2147483648 : Int) ≤ x by omega) (show x ≤ (2147483647 : Int) by omega) (show (-2147483648 : Int) ≤ y by omega) (show y ≤ (2147483647 : Int) by omega)).symm
  refine w_irem h0 (fun h => absurd (zi_inj (x := y) (y := 0) (by omega) (by omega) h) (by omega)) ?_
  rw [e0, ← Int32.ofInt_mul, ← Int32.ofInt_sub, show x - x / y * y = x % y by rw [Int.emod_def, Int.mul_comm]]
  exact kk
theorem z_iremg {X : Nat × (Nat → Int32)} {d k pc nx : Nat} {ls : List (Option Value)} {st : List Value} {J M : zA} {R : zR} {P : zP} {x y e : Int} (h0 : gF k pc = some (20, nx, 0, 0, 0, 0)) (hy : ¬ Int32.ofInt y = 0) (he : zrem x y = e) (kk : zW X d k nx (ls) (zi e :: st) J M R P) : zW X d k pc (ls) (zi y :: zi x :: st) J M R P := by
  subst he
  refine w_irem h0 hy ?_
  have kk : zW X d k nx ls (.int (Int32.ofInt (zrem x y)) :: st) J M R P := kk
  unfold zrem at kk
  rw [Int32.ofInt_toInt] at kk
  exact kk
theorem z_ldiv {X : Nat × (Nat → Int32)} {d k pc nx : Nat} {ls : List (Option Value)} {st : List Value} {J M : zA} {R : zR} {P : zP} {x y e : Int} (h0 : gF k pc = some (27, nx, 0, 0, 0, 0)) (hx : 0 ≤ x ∧ x < 9223372036854775808) (hy : 0 < y ∧ y < 9223372036854775808) (he : x / y = e) (kk : zW X d k nx (ls) (zl e :: st) J M R P) : zW X d k pc (ls) (zl y :: zl x :: st) J M R P := by
  subst he
  have e0 : Int64.ofInt x / Int64.ofInt y = Int64.ofInt (x / y) := by
    rw [← Int.tdiv_eq_ediv_of_nonneg hx.1]
    exact (Int64.ofInt_tdiv (show (-9223372036854775808 : Int) ≤ x by omega) (show x ≤ (9223372036854775807 : Int) by omega) (show (-9223372036854775808 : Int) ≤ y by omega) (show y ≤ (9223372036854775807 : Int) by omega)).symm
  refine w_ldiv h0 (fun h => absurd (zl_inj (x := y) (y := 0) (by omega) (by omega) h) (by omega)) ?_
  rw [e0]
  exact kk
theorem z_land {X : Nat × (Nat → Int32)} {d k pc nx : Nat} {ls : List (Option Value)} {st : List Value} {J M : zA} {R : zR} {P : zP} {x y e : Int} (h0 : gF k pc = some (25, nx, 0, 0, 0, 0)) (he : zlland x y = e) (kk : zW X d k nx (ls) (zl e :: st) J M R P) : zW X d k pc (ls) (zl y :: zl x :: st) J M R P := by
  subst he
  refine w_land h0 ?_
  have kk : zW X d k nx ls (.long (Int64.ofInt (zlland x y)) :: st) J M R P := kk
  unfold zlland at kk
  rw [Int64.ofInt_toInt] at kk
  exact kk
theorem z_lor {X : Nat × (Nat → Int32)} {d k pc nx : Nat} {ls : List (Option Value)} {st : List Value} {J M : zA} {R : zR} {P : zP} {x y e : Int} (h0 : gF k pc = some (26, nx, 0, 0, 0, 0)) (he : zllor x y = e) (kk : zW X d k nx (ls) (zl e :: st) J M R P) : zW X d k pc (ls) (zl y :: zl x :: st) J M R P := by
  subst he
  refine w_lor h0 ?_
  have kk : zW X d k nx ls (.long (Int64.ofInt (zllor x y)) :: st) J M R P := kk
  unfold zllor at kk
  rw [Int64.ofInt_toInt] at kk
  exact kk
theorem z_lshl {X : Nat × (Nat → Int32)} {d k pc nx : Nat} {ls : List (Option Value)} {st : List Value} {J M : zA} {R : zR} {P : zP} {x y e : Int} (h0 : gF k pc = some (28, nx, 0, 0, 0, 0)) (he : zllshl x y = e) (kk : zW X d k nx (ls) (zl e :: st) J M R P) : zW X d k pc (ls) (zi y :: zl x :: st) J M R P := by
  subst he
  refine w_lshl h0 ?_
  have kk : zW X d k nx ls (.long (Int64.ofInt (zllshl x y)) :: st) J M R P := kk
  unfold zllshl at kk
  rw [Int64.ofInt_toInt] at kk
  exact kk
theorem z_i2l {X : Nat × (Nat → Int32)} {d k pc nx : Nat} {ls : List (Option Value)} {st : List Value} {J M : zA} {R : zR} {P : zP} {x : Int} (h0 : gF k pc = some (29, nx, 0, 0, 0, 0)) (hx : (-2147483648 ≤ x ∧ x < 2147483648)) (kk : zW X d k nx (ls) (zl x :: st) J M R P) : zW X d k pc (ls) (zi x :: st) J M R P := by
  refine w_i2l h0 ?_
  rw [Int32.toInt64_ofInt (show (-2147483648 : Int) ≤ x by omega) (show x ≤ (2147483647 : Int) by omega)]
  exact kk
theorem z_l2i {X : Nat × (Nat → Int32)} {d k pc nx : Nat} {ls : List (Option Value)} {st : List Value} {J M : zA} {R : zR} {P : zP} {x : Int} (h0 : gF k pc = some (30, nx, 0, 0, 0, 0)) (kk : zW X d k nx (ls) (zi x :: st) J M R P) : zW X d k pc (ls) (zl x :: st) J M R P := by
  refine w_l2i h0 ?_
  rw [Int64.toInt32_ofInt]
  exact kk
theorem z_i2b {X : Nat × (Nat → Int32)} {d k pc nx : Nat} {ls : List (Option Value)} {st : List Value} {J M : zA} {R : zR} {P : zP} {x e : Int} (h0 : gF k pc = some (31, nx, 0, 0, 0, 0)) (he : zb x = e) (kk : zW X d k nx (ls) (zi e :: st) J M R P) : zW X d k pc (ls) (zi x :: st) J M R P := by
  subst he
  refine w_i2b h0 ?_
  have kk : zW X d k nx ls (.int (Int32.ofInt (zb x)) :: st) J M R P := kk
  unfold zb at kk
  rw [Int32.ofInt_toInt] at kk
  exact kk
theorem z_i2s {X : Nat × (Nat → Int32)} {d k pc nx : Nat} {ls : List (Option Value)} {st : List Value} {J M : zA} {R : zR} {P : zP} {x e : Int} (h0 : gF k pc = some (32, nx, 0, 0, 0, 0)) (he : zh x = e) (kk : zW X d k nx (ls) (zi e :: st) J M R P) : zW X d k pc (ls) (zi x :: st) J M R P := by
  subst he
  refine w_i2s h0 ?_
  have kk : zW X d k nx ls (.int (Int32.ofInt (zh x)) :: st) J M R P := kk
  unfold zh at kk
  rw [Int32.ofInt_toInt] at kk
  exact kk
theorem z_top {X : Nat × (Nat → Int32)} {d k pc : Nat} {ls : List (Option Value)} {st : List Value} {J M : zA} {R : zR} {P : zP} {x y : Int} (h : Int32.ofInt x = Int32.ofInt y) (kk : zW X d k pc (ls) (zi y :: st) J M R P) : zW X d k pc (ls) (zi x :: st) J M R P := by
  show zW X d k pc ls (.int (Int32.ofInt x) :: st) J M R P
  rw [h]
  exact kk
theorem z_topn {X : Nat × (Nat → Int32)} {d k pc : Nat} {ls : List (Option Value)} {st : List Value} {J M : zA} {R : zR} {P : zP} {x e : Int} (he : zn x = e) (kk : zW X d k pc (ls) (zi e :: st) J M R P) : zW X d k pc (ls) (zi x :: st) J M R P := by
  subst he
  refine z_top (y := zn x) ?_ kk
  unfold zn
  rw [Int32.ofInt_toInt]
theorem z_if_eq {X : Nat × (Nat → Int32)} {d k pc nx : Nat} {ls : List (Option Value)} {st : List Value} {J M : zA} {R : zR} {P : zP} {x : Int} {tg : Nat} (h0 : gF k pc = some (38, nx, 0, tg, 0, 0)) (hx : (-2147483648 ≤ x ∧ x < 2147483648)) (kt : x = 0 → zW X d k tg (ls) (st) J M R P) (kf : ¬ x = 0 → zW X d k nx (ls) (st) J M R P) : zW X d k pc (ls) (zi x :: st) J M R P := by
  have z0 : (0 : Int32) = Int32.ofInt 0 := rfl
  refine w_if_eq h0 (fun h => kt (by rw [z0] at h; exact zi_inj hx (show (-2147483648 : Int) ≤ 0 ∧ (0 : Int) < 2147483648 by omega) h)) (fun h => kf (by rw [z0] at h; exact fun q => h (by rw [q])))
theorem z_if_eqT {X : Nat × (Nat → Int32)} {d k pc nx : Nat} {ls : List (Option Value)} {st : List Value} {J M : zA} {R : zR} {P : zP} {x : Int} {tg : Nat} (h0 : gF k pc = some (38, nx, 0, tg, 0, 0)) (hx : (-2147483648 ≤ x ∧ x < 2147483648)) (hc : x = 0) (kk : zW X d k tg (ls) (st) J M R P) : zW X d k pc (ls) (zi x :: st) J M R P := z_if_eq h0 hx (fun _ => kk) (fun h => by exfalso; omega)
theorem z_if_eqF {X : Nat × (Nat → Int32)} {d k pc nx : Nat} {ls : List (Option Value)} {st : List Value} {J M : zA} {R : zR} {P : zP} {x : Int} {tg : Nat} (h0 : gF k pc = some (38, nx, 0, tg, 0, 0)) (hx : (-2147483648 ≤ x ∧ x < 2147483648)) (hc : ¬ x = 0) (kk : zW X d k nx (ls) (st) J M R P) : zW X d k pc (ls) (zi x :: st) J M R P := z_if_eq h0 hx (fun h => by exfalso; omega) (fun _ => kk)
theorem z_icmp_eq {X : Nat × (Nat → Int32)} {d k pc nx : Nat} {ls : List (Option Value)} {st : List Value} {J M : zA} {R : zR} {P : zP} {x y : Int} {tg : Nat} (h0 : gF k pc = some (44, nx, 0, tg, 0, 0)) (hx : (-2147483648 ≤ x ∧ x < 2147483648)) (hy : (-2147483648 ≤ y ∧ y < 2147483648)) (kt : x = y → zW X d k tg (ls) (st) J M R P) (kf : ¬ x = y → zW X d k nx (ls) (st) J M R P) : zW X d k pc (ls) (zi y :: zi x :: st) J M R P := by
  refine w_icmp_eq h0 (fun h => kt (by exact zi_inj hx hy h)) (fun h => kf (by exact fun q => h (by rw [q])))
theorem z_icmp_eqT {X : Nat × (Nat → Int32)} {d k pc nx : Nat} {ls : List (Option Value)} {st : List Value} {J M : zA} {R : zR} {P : zP} {x y : Int} {tg : Nat} (h0 : gF k pc = some (44, nx, 0, tg, 0, 0)) (hx : (-2147483648 ≤ x ∧ x < 2147483648)) (hy : (-2147483648 ≤ y ∧ y < 2147483648)) (hc : x = y) (kk : zW X d k tg (ls) (st) J M R P) : zW X d k pc (ls) (zi y :: zi x :: st) J M R P := z_icmp_eq h0 hx hy (fun _ => kk) (fun h => by exfalso; omega)
theorem z_icmp_eqF {X : Nat × (Nat → Int32)} {d k pc nx : Nat} {ls : List (Option Value)} {st : List Value} {J M : zA} {R : zR} {P : zP} {x y : Int} {tg : Nat} (h0 : gF k pc = some (44, nx, 0, tg, 0, 0)) (hx : (-2147483648 ≤ x ∧ x < 2147483648)) (hy : (-2147483648 ≤ y ∧ y < 2147483648)) (hc : ¬ x = y) (kk : zW X d k nx (ls) (st) J M R P) : zW X d k pc (ls) (zi y :: zi x :: st) J M R P := z_icmp_eq h0 hx hy (fun h => by exfalso; omega) (fun _ => kk)
theorem z_lcmp_eq {X : Nat × (Nat → Int32)} {d k pc nx : Nat} {ls : List (Option Value)} {st : List Value} {J M : zA} {R : zR} {P : zP} {x y : Int} {n1 tg : Nat} (h0 : gF k pc = some (33, n1, 0, 0, 0, 0)) (h1 : gF k n1 = some (38, nx, 0, tg, 0, 0)) (hx : (-9223372036854775808 ≤ x ∧ x < 9223372036854775808)) (hy : (-9223372036854775808 ≤ y ∧ y < 9223372036854775808)) (kt : x = y → zW X d k tg (ls) (st) J M R P) (kf : ¬ x = y → zW X d k nx (ls) (st) J M R P) : zW X d k pc (ls) (zl y :: zl x :: st) J M R P := by
  refine w_lcmp h0 (w_if_eq h1 (fun h => kt (by rw [lg_cmp_eq] at h; exact zl_inj hx hy h)) (fun h => kf (by rw [lg_cmp_eq] at h; exact fun q => h (by rw [q]))))
theorem z_if_ne {X : Nat × (Nat → Int32)} {d k pc nx : Nat} {ls : List (Option Value)} {st : List Value} {J M : zA} {R : zR} {P : zP} {x : Int} {tg : Nat} (h0 : gF k pc = some (39, nx, 0, tg, 0, 0)) (hx : (-2147483648 ≤ x ∧ x < 2147483648)) (kt : ¬ x = 0 → zW X d k tg (ls) (st) J M R P) (kf : x = 0 → zW X d k nx (ls) (st) J M R P) : zW X d k pc (ls) (zi x :: st) J M R P := by
  have z0 : (0 : Int32) = Int32.ofInt 0 := rfl
  refine w_if_ne h0 (fun h => kt (by rw [z0] at h; exact fun q => h (by rw [q]))) (fun h => kf (by rw [z0] at h; exact zi_inj hx (show (-2147483648 : Int) ≤ 0 ∧ (0 : Int) < 2147483648 by omega) h))
theorem z_if_neT {X : Nat × (Nat → Int32)} {d k pc nx : Nat} {ls : List (Option Value)} {st : List Value} {J M : zA} {R : zR} {P : zP} {x : Int} {tg : Nat} (h0 : gF k pc = some (39, nx, 0, tg, 0, 0)) (hx : (-2147483648 ≤ x ∧ x < 2147483648)) (hc : ¬ x = 0) (kk : zW X d k tg (ls) (st) J M R P) : zW X d k pc (ls) (zi x :: st) J M R P := z_if_ne h0 hx (fun _ => kk) (fun h => by exfalso; omega)
theorem z_if_neF {X : Nat × (Nat → Int32)} {d k pc nx : Nat} {ls : List (Option Value)} {st : List Value} {J M : zA} {R : zR} {P : zP} {x : Int} {tg : Nat} (h0 : gF k pc = some (39, nx, 0, tg, 0, 0)) (hx : (-2147483648 ≤ x ∧ x < 2147483648)) (hc : x = 0) (kk : zW X d k nx (ls) (st) J M R P) : zW X d k pc (ls) (zi x :: st) J M R P := z_if_ne h0 hx (fun h => by exfalso; omega) (fun _ => kk)
theorem z_icmp_ne {X : Nat × (Nat → Int32)} {d k pc nx : Nat} {ls : List (Option Value)} {st : List Value} {J M : zA} {R : zR} {P : zP} {x y : Int} {tg : Nat} (h0 : gF k pc = some (45, nx, 0, tg, 0, 0)) (hx : (-2147483648 ≤ x ∧ x < 2147483648)) (hy : (-2147483648 ≤ y ∧ y < 2147483648)) (kt : ¬ x = y → zW X d k tg (ls) (st) J M R P) (kf : x = y → zW X d k nx (ls) (st) J M R P) : zW X d k pc (ls) (zi y :: zi x :: st) J M R P := by
  refine w_icmp_ne h0 (fun h => kt (by exact fun q => h (by rw [q]))) (fun h => kf (by exact zi_inj hx hy h))
theorem z_icmp_neT {X : Nat × (Nat → Int32)} {d k pc nx : Nat} {ls : List (Option Value)} {st : List Value} {J M : zA} {R : zR} {P : zP} {x y : Int} {tg : Nat} (h0 : gF k pc = some (45, nx, 0, tg, 0, 0)) (hx : (-2147483648 ≤ x ∧ x < 2147483648)) (hy : (-2147483648 ≤ y ∧ y < 2147483648)) (hc : ¬ x = y) (kk : zW X d k tg (ls) (st) J M R P) : zW X d k pc (ls) (zi y :: zi x :: st) J M R P := z_icmp_ne h0 hx hy (fun _ => kk) (fun h => by exfalso; omega)
theorem z_icmp_neF {X : Nat × (Nat → Int32)} {d k pc nx : Nat} {ls : List (Option Value)} {st : List Value} {J M : zA} {R : zR} {P : zP} {x y : Int} {tg : Nat} (h0 : gF k pc = some (45, nx, 0, tg, 0, 0)) (hx : (-2147483648 ≤ x ∧ x < 2147483648)) (hy : (-2147483648 ≤ y ∧ y < 2147483648)) (hc : x = y) (kk : zW X d k nx (ls) (st) J M R P) : zW X d k pc (ls) (zi y :: zi x :: st) J M R P := z_icmp_ne h0 hx hy (fun h => by exfalso; omega) (fun _ => kk)
theorem z_lcmp_ne {X : Nat × (Nat → Int32)} {d k pc nx : Nat} {ls : List (Option Value)} {st : List Value} {J M : zA} {R : zR} {P : zP} {x y : Int} {n1 tg : Nat} (h0 : gF k pc = some (33, n1, 0, 0, 0, 0)) (h1 : gF k n1 = some (39, nx, 0, tg, 0, 0)) (hx : (-9223372036854775808 ≤ x ∧ x < 9223372036854775808)) (hy : (-9223372036854775808 ≤ y ∧ y < 9223372036854775808)) (kt : ¬ x = y → zW X d k tg (ls) (st) J M R P) (kf : x = y → zW X d k nx (ls) (st) J M R P) : zW X d k pc (ls) (zl y :: zl x :: st) J M R P := by
  refine w_lcmp h0 (w_if_ne h1 (fun h => kt (by rw [lg_cmp_eq] at h; exact fun q => h (by rw [q]))) (fun h => kf (by rw [lg_cmp_eq] at h; exact zl_inj hx hy h)))
theorem z_if_lt {X : Nat × (Nat → Int32)} {d k pc nx : Nat} {ls : List (Option Value)} {st : List Value} {J M : zA} {R : zR} {P : zP} {x : Int} {tg : Nat} (h0 : gF k pc = some (40, nx, 0, tg, 0, 0)) (hx : (-2147483648 ≤ x ∧ x < 2147483648)) (kt : x < 0 → zW X d k tg (ls) (st) J M R P) (kf : 0 ≤ x → zW X d k nx (ls) (st) J M R P) : zW X d k pc (ls) (zi x :: st) J M R P := by
  have z0 : (0 : Int32) = Int32.ofInt 0 := rfl
  refine w_if_lt h0 (fun h => kt (by rw [z0] at h; rw [zi_lt hx (show (-2147483648 : Int) ≤ 0 ∧ (0 : Int) < 2147483648 by omega)] at h; exact h)) (fun h => kf (by rw [z0] at h; rw [zi_lt hx (show (-2147483648 : Int) ≤ 0 ∧ (0 : Int) < 2147483648 by omega)] at h; omega))
theorem z_if_ltT {X : Nat × (Nat → Int32)} {d k pc nx : Nat} {ls : List (Option Value)} {st : List Value} {J M : zA} {R : zR} {P : zP} {x : Int} {tg : Nat} (h0 : gF k pc = some (40, nx, 0, tg, 0, 0)) (hx : (-2147483648 ≤ x ∧ x < 2147483648)) (hc : x < 0) (kk : zW X d k tg (ls) (st) J M R P) : zW X d k pc (ls) (zi x :: st) J M R P := z_if_lt h0 hx (fun _ => kk) (fun h => by exfalso; omega)
theorem z_if_ltF {X : Nat × (Nat → Int32)} {d k pc nx : Nat} {ls : List (Option Value)} {st : List Value} {J M : zA} {R : zR} {P : zP} {x : Int} {tg : Nat} (h0 : gF k pc = some (40, nx, 0, tg, 0, 0)) (hx : (-2147483648 ≤ x ∧ x < 2147483648)) (hc : 0 ≤ x) (kk : zW X d k nx (ls) (st) J M R P) : zW X d k pc (ls) (zi x :: st) J M R P := z_if_lt h0 hx (fun h => by exfalso; omega) (fun _ => kk)
theorem z_icmp_lt {X : Nat × (Nat → Int32)} {d k pc nx : Nat} {ls : List (Option Value)} {st : List Value} {J M : zA} {R : zR} {P : zP} {x y : Int} {tg : Nat} (h0 : gF k pc = some (46, nx, 0, tg, 0, 0)) (hx : (-2147483648 ≤ x ∧ x < 2147483648)) (hy : (-2147483648 ≤ y ∧ y < 2147483648)) (kt : x < y → zW X d k tg (ls) (st) J M R P) (kf : y ≤ x → zW X d k nx (ls) (st) J M R P) : zW X d k pc (ls) (zi y :: zi x :: st) J M R P := by
  refine w_icmp_lt h0 (fun h => kt (by rw [zi_lt hx hy] at h; exact h)) (fun h => kf (by rw [zi_lt hx hy] at h; omega))
theorem z_icmp_ltT {X : Nat × (Nat → Int32)} {d k pc nx : Nat} {ls : List (Option Value)} {st : List Value} {J M : zA} {R : zR} {P : zP} {x y : Int} {tg : Nat} (h0 : gF k pc = some (46, nx, 0, tg, 0, 0)) (hx : (-2147483648 ≤ x ∧ x < 2147483648)) (hy : (-2147483648 ≤ y ∧ y < 2147483648)) (hc : x < y) (kk : zW X d k tg (ls) (st) J M R P) : zW X d k pc (ls) (zi y :: zi x :: st) J M R P := z_icmp_lt h0 hx hy (fun _ => kk) (fun h => by exfalso; omega)
theorem z_icmp_ltF {X : Nat × (Nat → Int32)} {d k pc nx : Nat} {ls : List (Option Value)} {st : List Value} {J M : zA} {R : zR} {P : zP} {x y : Int} {tg : Nat} (h0 : gF k pc = some (46, nx, 0, tg, 0, 0)) (hx : (-2147483648 ≤ x ∧ x < 2147483648)) (hy : (-2147483648 ≤ y ∧ y < 2147483648)) (hc : y ≤ x) (kk : zW X d k nx (ls) (st) J M R P) : zW X d k pc (ls) (zi y :: zi x :: st) J M R P := z_icmp_lt h0 hx hy (fun h => by exfalso; omega) (fun _ => kk)
theorem z_lcmp_lt {X : Nat × (Nat → Int32)} {d k pc nx : Nat} {ls : List (Option Value)} {st : List Value} {J M : zA} {R : zR} {P : zP} {x y : Int} {n1 tg : Nat} (h0 : gF k pc = some (33, n1, 0, 0, 0, 0)) (h1 : gF k n1 = some (40, nx, 0, tg, 0, 0)) (hx : (-9223372036854775808 ≤ x ∧ x < 9223372036854775808)) (hy : (-9223372036854775808 ≤ y ∧ y < 9223372036854775808)) (kt : x < y → zW X d k tg (ls) (st) J M R P) (kf : y ≤ x → zW X d k nx (ls) (st) J M R P) : zW X d k pc (ls) (zl y :: zl x :: st) J M R P := by
  refine w_lcmp h0 (w_if_lt h1 (fun h => kt (by rw [lg_cmp_lt, zl_lt hx hy] at h; exact h)) (fun h => kf (by rw [lg_cmp_lt, zl_lt hx hy] at h; omega)))
theorem z_if_ge {X : Nat × (Nat → Int32)} {d k pc nx : Nat} {ls : List (Option Value)} {st : List Value} {J M : zA} {R : zR} {P : zP} {x : Int} {tg : Nat} (h0 : gF k pc = some (41, nx, 0, tg, 0, 0)) (hx : (-2147483648 ≤ x ∧ x < 2147483648)) (kt : 0 ≤ x → zW X d k tg (ls) (st) J M R P) (kf : x < 0 → zW X d k nx (ls) (st) J M R P) : zW X d k pc (ls) (zi x :: st) J M R P := by
  have z0 : (0 : Int32) = Int32.ofInt 0 := rfl
  refine w_if_ge h0 (fun h => kt (by rw [z0] at h; rw [zi_le (show (-2147483648 : Int) ≤ 0 ∧ (0 : Int) < 2147483648 by omega) hx] at h; exact h)) (fun h => kf (by rw [z0] at h; rw [zi_le (show (-2147483648 : Int) ≤ 0 ∧ (0 : Int) < 2147483648 by omega) hx] at h; omega))
theorem z_if_geT {X : Nat × (Nat → Int32)} {d k pc nx : Nat} {ls : List (Option Value)} {st : List Value} {J M : zA} {R : zR} {P : zP} {x : Int} {tg : Nat} (h0 : gF k pc = some (41, nx, 0, tg, 0, 0)) (hx : (-2147483648 ≤ x ∧ x < 2147483648)) (hc : 0 ≤ x) (kk : zW X d k tg (ls) (st) J M R P) : zW X d k pc (ls) (zi x :: st) J M R P := z_if_ge h0 hx (fun _ => kk) (fun h => by exfalso; omega)
theorem z_if_geF {X : Nat × (Nat → Int32)} {d k pc nx : Nat} {ls : List (Option Value)} {st : List Value} {J M : zA} {R : zR} {P : zP} {x : Int} {tg : Nat} (h0 : gF k pc = some (41, nx, 0, tg, 0, 0)) (hx : (-2147483648 ≤ x ∧ x < 2147483648)) (hc : x < 0) (kk : zW X d k nx (ls) (st) J M R P) : zW X d k pc (ls) (zi x :: st) J M R P := z_if_ge h0 hx (fun h => by exfalso; omega) (fun _ => kk)
theorem z_icmp_ge {X : Nat × (Nat → Int32)} {d k pc nx : Nat} {ls : List (Option Value)} {st : List Value} {J M : zA} {R : zR} {P : zP} {x y : Int} {tg : Nat} (h0 : gF k pc = some (47, nx, 0, tg, 0, 0)) (hx : (-2147483648 ≤ x ∧ x < 2147483648)) (hy : (-2147483648 ≤ y ∧ y < 2147483648)) (kt : y ≤ x → zW X d k tg (ls) (st) J M R P) (kf : x < y → zW X d k nx (ls) (st) J M R P) : zW X d k pc (ls) (zi y :: zi x :: st) J M R P := by
  refine w_icmp_ge h0 (fun h => kt (by rw [zi_le hy hx] at h; exact h)) (fun h => kf (by rw [zi_le hy hx] at h; omega))
theorem z_icmp_geT {X : Nat × (Nat → Int32)} {d k pc nx : Nat} {ls : List (Option Value)} {st : List Value} {J M : zA} {R : zR} {P : zP} {x y : Int} {tg : Nat} (h0 : gF k pc = some (47, nx, 0, tg, 0, 0)) (hx : (-2147483648 ≤ x ∧ x < 2147483648)) (hy : (-2147483648 ≤ y ∧ y < 2147483648)) (hc : y ≤ x) (kk : zW X d k tg (ls) (st) J M R P) : zW X d k pc (ls) (zi y :: zi x :: st) J M R P := z_icmp_ge h0 hx hy (fun _ => kk) (fun h => by exfalso; omega)
theorem z_icmp_geF {X : Nat × (Nat → Int32)} {d k pc nx : Nat} {ls : List (Option Value)} {st : List Value} {J M : zA} {R : zR} {P : zP} {x y : Int} {tg : Nat} (h0 : gF k pc = some (47, nx, 0, tg, 0, 0)) (hx : (-2147483648 ≤ x ∧ x < 2147483648)) (hy : (-2147483648 ≤ y ∧ y < 2147483648)) (hc : x < y) (kk : zW X d k nx (ls) (st) J M R P) : zW X d k pc (ls) (zi y :: zi x :: st) J M R P := z_icmp_ge h0 hx hy (fun h => by exfalso; omega) (fun _ => kk)
theorem z_lcmp_ge {X : Nat × (Nat → Int32)} {d k pc nx : Nat} {ls : List (Option Value)} {st : List Value} {J M : zA} {R : zR} {P : zP} {x y : Int} {n1 tg : Nat} (h0 : gF k pc = some (33, n1, 0, 0, 0, 0)) (h1 : gF k n1 = some (41, nx, 0, tg, 0, 0)) (hx : (-9223372036854775808 ≤ x ∧ x < 9223372036854775808)) (hy : (-9223372036854775808 ≤ y ∧ y < 9223372036854775808)) (kt : y ≤ x → zW X d k tg (ls) (st) J M R P) (kf : x < y → zW X d k nx (ls) (st) J M R P) : zW X d k pc (ls) (zl y :: zl x :: st) J M R P := by
  refine w_lcmp h0 (w_if_ge h1 (fun h => kt (by rw [lg_cmp_ge, zl_le hy hx] at h; exact h)) (fun h => kf (by rw [lg_cmp_ge, zl_le hy hx] at h; omega)))
theorem z_if_gt {X : Nat × (Nat → Int32)} {d k pc nx : Nat} {ls : List (Option Value)} {st : List Value} {J M : zA} {R : zR} {P : zP} {x : Int} {tg : Nat} (h0 : gF k pc = some (42, nx, 0, tg, 0, 0)) (hx : (-2147483648 ≤ x ∧ x < 2147483648)) (kt : 0 < x → zW X d k tg (ls) (st) J M R P) (kf : x ≤ 0 → zW X d k nx (ls) (st) J M R P) : zW X d k pc (ls) (zi x :: st) J M R P := by
  have z0 : (0 : Int32) = Int32.ofInt 0 := rfl
  refine w_if_gt h0 (fun h => kt (by rw [z0] at h; rw [zi_lt (show (-2147483648 : Int) ≤ 0 ∧ (0 : Int) < 2147483648 by omega) hx] at h; exact h)) (fun h => kf (by rw [z0] at h; rw [zi_lt (show (-2147483648 : Int) ≤ 0 ∧ (0 : Int) < 2147483648 by omega) hx] at h; omega))
theorem z_if_gtT {X : Nat × (Nat → Int32)} {d k pc nx : Nat} {ls : List (Option Value)} {st : List Value} {J M : zA} {R : zR} {P : zP} {x : Int} {tg : Nat} (h0 : gF k pc = some (42, nx, 0, tg, 0, 0)) (hx : (-2147483648 ≤ x ∧ x < 2147483648)) (hc : 0 < x) (kk : zW X d k tg (ls) (st) J M R P) : zW X d k pc (ls) (zi x :: st) J M R P := z_if_gt h0 hx (fun _ => kk) (fun h => by exfalso; omega)
theorem z_if_gtF {X : Nat × (Nat → Int32)} {d k pc nx : Nat} {ls : List (Option Value)} {st : List Value} {J M : zA} {R : zR} {P : zP} {x : Int} {tg : Nat} (h0 : gF k pc = some (42, nx, 0, tg, 0, 0)) (hx : (-2147483648 ≤ x ∧ x < 2147483648)) (hc : x ≤ 0) (kk : zW X d k nx (ls) (st) J M R P) : zW X d k pc (ls) (zi x :: st) J M R P := z_if_gt h0 hx (fun h => by exfalso; omega) (fun _ => kk)
theorem z_icmp_gt {X : Nat × (Nat → Int32)} {d k pc nx : Nat} {ls : List (Option Value)} {st : List Value} {J M : zA} {R : zR} {P : zP} {x y : Int} {tg : Nat} (h0 : gF k pc = some (48, nx, 0, tg, 0, 0)) (hx : (-2147483648 ≤ x ∧ x < 2147483648)) (hy : (-2147483648 ≤ y ∧ y < 2147483648)) (kt : y < x → zW X d k tg (ls) (st) J M R P) (kf : x ≤ y → zW X d k nx (ls) (st) J M R P) : zW X d k pc (ls) (zi y :: zi x :: st) J M R P := by
  refine w_icmp_gt h0 (fun h => kt (by rw [zi_lt hy hx] at h; exact h)) (fun h => kf (by rw [zi_lt hy hx] at h; omega))
theorem z_icmp_gtT {X : Nat × (Nat → Int32)} {d k pc nx : Nat} {ls : List (Option Value)} {st : List Value} {J M : zA} {R : zR} {P : zP} {x y : Int} {tg : Nat} (h0 : gF k pc = some (48, nx, 0, tg, 0, 0)) (hx : (-2147483648 ≤ x ∧ x < 2147483648)) (hy : (-2147483648 ≤ y ∧ y < 2147483648)) (hc : y < x) (kk : zW X d k tg (ls) (st) J M R P) : zW X d k pc (ls) (zi y :: zi x :: st) J M R P := z_icmp_gt h0 hx hy (fun _ => kk) (fun h => by exfalso; omega)
theorem z_icmp_gtF {X : Nat × (Nat → Int32)} {d k pc nx : Nat} {ls : List (Option Value)} {st : List Value} {J M : zA} {R : zR} {P : zP} {x y : Int} {tg : Nat} (h0 : gF k pc = some (48, nx, 0, tg, 0, 0)) (hx : (-2147483648 ≤ x ∧ x < 2147483648)) (hy : (-2147483648 ≤ y ∧ y < 2147483648)) (hc : x ≤ y) (kk : zW X d k nx (ls) (st) J M R P) : zW X d k pc (ls) (zi y :: zi x :: st) J M R P := z_icmp_gt h0 hx hy (fun h => by exfalso; omega) (fun _ => kk)
theorem z_lcmp_gt {X : Nat × (Nat → Int32)} {d k pc nx : Nat} {ls : List (Option Value)} {st : List Value} {J M : zA} {R : zR} {P : zP} {x y : Int} {n1 tg : Nat} (h0 : gF k pc = some (33, n1, 0, 0, 0, 0)) (h1 : gF k n1 = some (42, nx, 0, tg, 0, 0)) (hx : (-9223372036854775808 ≤ x ∧ x < 9223372036854775808)) (hy : (-9223372036854775808 ≤ y ∧ y < 9223372036854775808)) (kt : y < x → zW X d k tg (ls) (st) J M R P) (kf : x ≤ y → zW X d k nx (ls) (st) J M R P) : zW X d k pc (ls) (zl y :: zl x :: st) J M R P := by
  refine w_lcmp h0 (w_if_gt h1 (fun h => kt (by rw [lg_cmp_gt, zl_lt hy hx] at h; exact h)) (fun h => kf (by rw [lg_cmp_gt, zl_lt hy hx] at h; omega)))
theorem z_if_le {X : Nat × (Nat → Int32)} {d k pc nx : Nat} {ls : List (Option Value)} {st : List Value} {J M : zA} {R : zR} {P : zP} {x : Int} {tg : Nat} (h0 : gF k pc = some (43, nx, 0, tg, 0, 0)) (hx : (-2147483648 ≤ x ∧ x < 2147483648)) (kt : x ≤ 0 → zW X d k tg (ls) (st) J M R P) (kf : 0 < x → zW X d k nx (ls) (st) J M R P) : zW X d k pc (ls) (zi x :: st) J M R P := by
  have z0 : (0 : Int32) = Int32.ofInt 0 := rfl
  refine w_if_le h0 (fun h => kt (by rw [z0] at h; rw [zi_le hx (show (-2147483648 : Int) ≤ 0 ∧ (0 : Int) < 2147483648 by omega)] at h; exact h)) (fun h => kf (by rw [z0] at h; rw [zi_le hx (show (-2147483648 : Int) ≤ 0 ∧ (0 : Int) < 2147483648 by omega)] at h; omega))
theorem z_if_leT {X : Nat × (Nat → Int32)} {d k pc nx : Nat} {ls : List (Option Value)} {st : List Value} {J M : zA} {R : zR} {P : zP} {x : Int} {tg : Nat} (h0 : gF k pc = some (43, nx, 0, tg, 0, 0)) (hx : (-2147483648 ≤ x ∧ x < 2147483648)) (hc : x ≤ 0) (kk : zW X d k tg (ls) (st) J M R P) : zW X d k pc (ls) (zi x :: st) J M R P := z_if_le h0 hx (fun _ => kk) (fun h => by exfalso; omega)
theorem z_if_leF {X : Nat × (Nat → Int32)} {d k pc nx : Nat} {ls : List (Option Value)} {st : List Value} {J M : zA} {R : zR} {P : zP} {x : Int} {tg : Nat} (h0 : gF k pc = some (43, nx, 0, tg, 0, 0)) (hx : (-2147483648 ≤ x ∧ x < 2147483648)) (hc : 0 < x) (kk : zW X d k nx (ls) (st) J M R P) : zW X d k pc (ls) (zi x :: st) J M R P := z_if_le h0 hx (fun h => by exfalso; omega) (fun _ => kk)
theorem z_icmp_le {X : Nat × (Nat → Int32)} {d k pc nx : Nat} {ls : List (Option Value)} {st : List Value} {J M : zA} {R : zR} {P : zP} {x y : Int} {tg : Nat} (h0 : gF k pc = some (49, nx, 0, tg, 0, 0)) (hx : (-2147483648 ≤ x ∧ x < 2147483648)) (hy : (-2147483648 ≤ y ∧ y < 2147483648)) (kt : x ≤ y → zW X d k tg (ls) (st) J M R P) (kf : y < x → zW X d k nx (ls) (st) J M R P) : zW X d k pc (ls) (zi y :: zi x :: st) J M R P := by
  refine w_icmp_le h0 (fun h => kt (by rw [zi_le hx hy] at h; exact h)) (fun h => kf (by rw [zi_le hx hy] at h; omega))
theorem z_icmp_leT {X : Nat × (Nat → Int32)} {d k pc nx : Nat} {ls : List (Option Value)} {st : List Value} {J M : zA} {R : zR} {P : zP} {x y : Int} {tg : Nat} (h0 : gF k pc = some (49, nx, 0, tg, 0, 0)) (hx : (-2147483648 ≤ x ∧ x < 2147483648)) (hy : (-2147483648 ≤ y ∧ y < 2147483648)) (hc : x ≤ y) (kk : zW X d k tg (ls) (st) J M R P) : zW X d k pc (ls) (zi y :: zi x :: st) J M R P := z_icmp_le h0 hx hy (fun _ => kk) (fun h => by exfalso; omega)
theorem z_icmp_leF {X : Nat × (Nat → Int32)} {d k pc nx : Nat} {ls : List (Option Value)} {st : List Value} {J M : zA} {R : zR} {P : zP} {x y : Int} {tg : Nat} (h0 : gF k pc = some (49, nx, 0, tg, 0, 0)) (hx : (-2147483648 ≤ x ∧ x < 2147483648)) (hy : (-2147483648 ≤ y ∧ y < 2147483648)) (hc : y < x) (kk : zW X d k nx (ls) (st) J M R P) : zW X d k pc (ls) (zi y :: zi x :: st) J M R P := z_icmp_le h0 hx hy (fun h => by exfalso; omega) (fun _ => kk)
theorem z_lcmp_le {X : Nat × (Nat → Int32)} {d k pc nx : Nat} {ls : List (Option Value)} {st : List Value} {J M : zA} {R : zR} {P : zP} {x y : Int} {n1 tg : Nat} (h0 : gF k pc = some (33, n1, 0, 0, 0, 0)) (h1 : gF k n1 = some (43, nx, 0, tg, 0, 0)) (hx : (-9223372036854775808 ≤ x ∧ x < 9223372036854775808)) (hy : (-9223372036854775808 ≤ y ∧ y < 9223372036854775808)) (kt : x ≤ y → zW X d k tg (ls) (st) J M R P) (kf : y < x → zW X d k nx (ls) (st) J M R P) : zW X d k pc (ls) (zl y :: zl x :: st) J M R P := by
  refine w_lcmp h0 (w_if_le h1 (fun h => kt (by rw [lg_cmp_le, zl_le hx hy] at h; exact h)) (fun h => kf (by rw [lg_cmp_le, zl_le hx hy] at h; omega)))
theorem z_dup {X : Nat × (Nat → Int32)} {d k pc nx : Nat} {ls : List (Option Value)} {st : List Value} {J M : zA} {R : zR} {P : zP} {x : Value} (h0 : gF k pc = some (34, nx, 0, 0, 0, 0)) (h1 : x.category = 1) (kk : zW X d k nx (ls) (x :: x :: st) J M R P) : zW X d k pc (ls) (x :: st) J M R P := w_dup h0 h1 kk
theorem z_pop {X : Nat × (Nat → Int32)} {d k pc nx : Nat} {ls : List (Option Value)} {st : List Value} {J M : zA} {R : zR} {P : zP} {x : Value} (h0 : gF k pc = some (35, nx, 0, 0, 0, 0)) (h1 : x.category = 1) (kk : zW X d k nx (ls) (st) J M R P) : zW X d k pc (ls) (x :: st) J M R P := w_pop h0 h1 kk
theorem z_dup2 {X : Nat × (Nat → Int32)} {d k pc nx : Nat} {ls : List (Option Value)} {st : List Value} {J M : zA} {R : zR} {P : zP} {x y : Value} (h0 : gF k pc = some (36, nx, 0, 0, 0, 0)) (h1 : x.category = 1) (h2 : y.category = 1) (kk : zW X d k nx (ls) (x :: y :: x :: y :: st) J M R P) : zW X d k pc (ls) (x :: y :: st) J M R P := w_dup2 h0 h1 h2 kk
theorem z_pop2 {X : Nat × (Nat → Int32)} {d k pc nx : Nat} {ls : List (Option Value)} {st : List Value} {J M : zA} {R : zR} {P : zP} {x : Value} (h0 : gF k pc = some (86, nx, 0, 0, 0, 0)) (h1 : x.category = 2) (kk : zW X d k nx (ls) (st) J M R P) : zW X d k pc (ls) (x :: st) J M R P := w_pop2 h0 h1 kk
theorem z_goto {X : Nat × (Nat → Int32)} {d k pc nx : Nat} {ls : List (Option Value)} {st : List Value} {J M : zA} {R : zR} {P : zP}  (h0 : gF k pc = some (37, nx, 0, 0, 0, 0)) (kk : zW X d k nx (ls) (st) J M R P) : zW X d k pc (ls) (st) J M R P := w_goto h0 kk
theorem z_getI {X : Nat × (Nat → Int32)} {d k pc nx : Nat} {ls : List (Option Value)} {st : List Value} {J M : zA} {R : zR} {P : zP} {ci f a n : Nat} {v : Int} (h0 : gF k pc = some (50, nx, ci, f, 0, 0)) (hk : (gK 87)[a]? = some (ci, n)) (hv : J a (f : Int) = v) (kk : zW X d k nx (ls) (zi v :: st) J M R P) : zW X d k pc (ls) (.ref a :: st) J M R P := by
  subst hv
  exact w_getI h0 hk kk
theorem z_getL {X : Nat × (Nat → Int32)} {d k pc nx : Nat} {ls : List (Option Value)} {st : List Value} {J M : zA} {R : zR} {P : zP} {ci f a n : Nat} {v : Int} (h0 : gF k pc = some (51, nx, ci, f, 0, 0)) (hk : (gK 87)[a]? = some (ci, n)) (hv : M a (f : Int) = v) (kk : zW X d k nx (ls) (zl v :: st) J M R P) : zW X d k pc (ls) (.ref a :: st) J M R P := by
  subst hv
  exact w_getL h0 hk kk
theorem z_getR {X : Nat × (Nat → Int32)} {d k pc nx : Nat} {ls : List (Option Value)} {st : List Value} {J M : zA} {R : zR} {P : zP} {ci f a n r : Nat} (h0 : gF k pc = some (52, nx, ci, f, 0, 0)) (hk : (gK 87)[a]? = some (ci, n)) (hv : R a f = some r) (kk : zW X d k nx (ls) (.ref r :: st) J M R P) : zW X d k pc (ls) (.ref a :: st) J M R P := w_getR h0 hk hv kk
theorem z_putI {X : Nat × (Nat → Int32)} {d k pc nx : Nat} {ls : List (Option Value)} {st : List Value} {J M : zA} {R : zR} {P : zP} {ci f a n : Nat} {x y : Int} (h0 : gF k pc = some (53, nx, ci, f, 0, 0)) (hy : (f : Int) = y) (hk : (gK 87)[a]? = some (ci, n)) (kk : zW X d k nx (ls) (st) (zU J a y x) M R P) : zW X d k pc (ls) (zi x :: .ref a :: st) J M R P := by
  refine w_putI h0 hk ?_
  have e0 := @zI_put J a (f : Int) x (Int.natCast_nonneg f)
  rw [Int.toNat_natCast] at e0
  rw [e0, hy]
  exact kk
theorem z_putZ {X : Nat × (Nat → Int32)} {d k pc nx : Nat} {ls : List (Option Value)} {st : List Value} {J M : zA} {R : zR} {P : zP} {ci f a n : Nat} {x y : Int} (h0 : gF k pc = some (56, nx, ci, f, 0, 0)) (hy : (f : Int) = y) (hk : (gK 87)[a]? = some (ci, n)) (hb : x = 0 ∨ x = 1) (kk : zW X d k nx (ls) (st) (zU J a y x) M R P) : zW X d k pc (ls) (zi x :: .ref a :: st) J M R P := by
  refine w_putZ h0 hk (by rcases hb with rfl | rfl; exact Or.inl rfl; exact Or.inr rfl) ?_
  have e0 := @zI_put J a (f : Int) x (Int.natCast_nonneg f)
  rw [Int.toNat_natCast] at e0
  rw [e0, hy]
  exact kk
theorem z_putL {X : Nat × (Nat → Int32)} {d k pc nx : Nat} {ls : List (Option Value)} {st : List Value} {J M : zA} {R : zR} {P : zP} {ci f a n : Nat} {x y : Int} (h0 : gF k pc = some (54, nx, ci, f, 0, 0)) (hy : (f : Int) = y) (hk : (gK 87)[a]? = some (ci, n)) (kk : zW X d k nx (ls) (st) J (zU M a y x) R P) : zW X d k pc (ls) (zl x :: .ref a :: st) J M R P := by
  refine w_putL h0 hk ?_
  have e0 := @zL_put M a (f : Int) x (Int.natCast_nonneg f)
  rw [Int.toNat_natCast] at e0
  rw [e0, hy]
  exact kk
theorem z_putR {X : Nat × (Nat → Int32)} {d k pc nx : Nat} {ls : List (Option Value)} {st : List Value} {J M : zA} {R : zR} {P : zP} {ci f a n x : Nat} (h0 : gF k pc = some (55, nx, ci, f, 0, 0)) (hk : (gK 87)[a]? = some (ci, n)) (kk : zW X d k nx (ls) (st) J M (gU R a f (some x)) P) : zW X d k pc (ls) (.ref x :: .ref a :: st) J M R P := w_putR h0 hk kk
theorem z_getS {X : Nat × (Nat → Int32)} {d k pc nx : Nat} {ls : List (Option Value)} {st : List Value} {J M : zA} {R : zR} {P : zP} {j : Nat} (h0 : gF k pc = some (57, nx, j, 0, 0, 0)) (kk : zW X d k nx (ls) (.ref (1000 + j) :: st) J M R P) : zW X d k pc (ls) (st) J M R P := w_getS h0 kk
theorem z_iald {X : Nat × (Nat → Int32)} {d k pc nx : Nat} {ls : List (Option Value)} {st : List Value} {J M : zA} {R : zR} {P : zP} {a n : Nat} {x v : Int} (h0 : gF k pc = some (58, nx, 0, 0, 0, 0)) (hk : (gK 87)[a]? = some (12, n)) (hn : n ≤ 100000) (hx : 0 ≤ x ∧ x < (n : Int)) (hv : J a x = v) (kk : zW X d k nx (ls) (zi v :: st) J M R P) : zW X d k pc (ls) (zi x :: .ref a :: st) J M R P := by
  subst hv
  refine w_iald h0 hk (zin hx hn) ?_
  rw [zi_nat (by omega), zI_get hx.1]
  exact kk
theorem z_bald {X : Nat × (Nat → Int32)} {d k pc nx : Nat} {ls : List (Option Value)} {st : List Value} {J M : zA} {R : zR} {P : zP} {a n : Nat} {x v : Int} (h0 : gF k pc = some (61, nx, 0, 0, 0, 0)) (hk : (gK 87)[a]? = some (14, n)) (hn : n ≤ 100000) (hx : 0 ≤ x ∧ x < (n : Int)) (hv : J a x = v) (kk : zW X d k nx (ls) (zi v :: st) J M R P) : zW X d k pc (ls) (zi x :: .ref a :: st) J M R P := by
  subst hv
  refine w_bald h0 hk (zin hx hn) ?_
  rw [zi_nat (by omega), zI_get hx.1]
  exact kk
theorem z_hald {X : Nat × (Nat → Int32)} {d k pc nx : Nat} {ls : List (Option Value)} {st : List Value} {J M : zA} {R : zR} {P : zP} {a n : Nat} {x v : Int} (h0 : gF k pc = some (62, nx, 0, 0, 0, 0)) (hk : (gK 87)[a]? = some (15, n)) (hn : n ≤ 100000) (hx : 0 ≤ x ∧ x < (n : Int)) (hv : J a x = v) (kk : zW X d k nx (ls) (zi v :: st) J M R P) : zW X d k pc (ls) (zi x :: .ref a :: st) J M R P := by
  subst hv
  refine w_hald h0 hk (zin hx hn) ?_
  rw [zi_nat (by omega), zI_get hx.1]
  exact kk
theorem z_lald {X : Nat × (Nat → Int32)} {d k pc nx : Nat} {ls : List (Option Value)} {st : List Value} {J M : zA} {R : zR} {P : zP} {a n : Nat} {x v : Int} (h0 : gF k pc = some (59, nx, 0, 0, 0, 0)) (hk : (gK 87)[a]? = some (13, n)) (hn : n ≤ 100000) (hx : 0 ≤ x ∧ x < (n : Int)) (hv : M a x = v) (kk : zW X d k nx (ls) (zl v :: st) J M R P) : zW X d k pc (ls) (zi x :: .ref a :: st) J M R P := by
  subst hv
  refine w_lald h0 hk (zin hx hn) ?_
  rw [zi_nat (by omega), zL_get hx.1]
  exact kk
theorem z_aald {X : Nat × (Nat → Int32)} {d k pc nx : Nat} {ls : List (Option Value)} {st : List Value} {J M : zA} {R : zR} {P : zP} {a n r : Nat} {x : Int} (h0 : gF k pc = some (60, nx, 0, 0, 0, 0)) (hk : (gK 87)[a]? = some (16, n)) (hn : n ≤ 100000) (hx : 0 ≤ x ∧ x < (n : Int)) (hv : R a x.toNat = some r) (kk : zW X d k nx (ls) (.ref r :: st) J M R P) : zW X d k pc (ls) (zi x :: .ref a :: st) J M R P := by
  refine w_aald h0 hk (zin hx hn) ?_ kk
  rw [zi_nat (by omega)]
  exact hv
theorem z_sald {X : Nat × (Nat → Int32)} {d k pc nx : Nat} {ls : List (Option Value)} {st : List Value} {J M : zA} {R : zR} {P : zP} {j n : Nat} {x v : Int} (h0 : gF k pc = some (58, nx, 0, 0, 0, 0)) (hj : j + 1 ≤ 5) (hl : gZl X (j + 1) = n) (hn : n ≤ 100000) (hx : 0 ≤ x ∧ x < (n : Int)) (hv : zT (j + 1) x = v) (kk : zW X d k nx (ls) (zi v :: st) J M R P) : zW X d k pc (ls) (zi x :: .ref (1000 + (j + 1)) :: st) J M R P := by
  subst hv
  subst hl
  refine w_sald h0 hj (zin hx hn) ?_
  rw [zi_nat (by omega)]
  have kk : zW X d k nx ls (.int (Int32.ofInt (zT (j + 1) x)) :: st) J M R P := kk
  unfold zT at kk
  rw [Int32.ofInt_toInt] at kk
  exact kk
theorem z_xald {X : Nat × (Nat → Int32)} {d k pc nx : Nat} {ls : List (Option Value)} {st : List Value} {J M : zA} {R : zR} {P : zP} {x v : Int} (h0 : gF k pc = some (58, nx, 0, 0, 0, 0)) (hn : X.1 ≤ 100000) (hx : 0 ≤ x ∧ x < (X.1 : Int)) (hv : (X.2 x.toNat).toInt = v) (kk : zW X d k nx (ls) (zi v :: st) J M R P) : zW X d k pc (ls) (zi x :: .ref 1000 :: st) J M R P := by
  subst hv
  refine w_sald (j := 0) h0 (by decide) (zin hx hn) ?_
  rw [zi_nat (by omega)]
  have kk : zW X d k nx ls (.int (Int32.ofInt (X.2 x.toNat).toInt) :: st) J M R P := kk
  rw [Int32.ofInt_toInt] at kk
  exact kk
theorem z_iast {X : Nat × (Nat → Int32)} {d k pc nx : Nat} {ls : List (Option Value)} {st : List Value} {J M : zA} {R : zR} {P : zP} {a n : Nat} {x v e : Int} (h0 : gF k pc = some (64, nx, 0, 0, 0, 0)) (hk : (gK 87)[a]? = some (12, n)) (hn : n ≤ 100000) (hx : 0 ≤ x ∧ x < (n : Int)) (he : v = e) (kk : zW X d k nx (ls) (st) (zU J a x e) M R P) : zW X d k pc (ls) (zi v :: zi x :: .ref a :: st) J M R P := by
  subst he
  refine w_iast h0 hk (zin hx hn) ?_
  rw [zi_nat (by omega), zI_put hx.1]
  exact kk
theorem z_bast {X : Nat × (Nat → Int32)} {d k pc nx : Nat} {ls : List (Option Value)} {st : List Value} {J M : zA} {R : zR} {P : zP} {a n : Nat} {x v e : Int} (h0 : gF k pc = some (66, nx, 0, 0, 0, 0)) (hk : (gK 87)[a]? = some (14, n)) (hn : n ≤ 100000) (hx : 0 ≤ x ∧ x < (n : Int)) (he : (zb v) = e) (kk : zW X d k nx (ls) (st) (zU J a x e) M R P) : zW X d k pc (ls) (zi v :: zi x :: .ref a :: st) J M R P := by
  subst he
  refine w_bast h0 hk (zin hx hn) ?_
  have e1 : Int32.ofInt (zb v) = _ := Int32.ofInt_toInt _
  rw [zi_nat (by omega), ← e1, zI_put hx.1]
  exact kk
theorem z_hast {X : Nat × (Nat → Int32)} {d k pc nx : Nat} {ls : List (Option Value)} {st : List Value} {J M : zA} {R : zR} {P : zP} {a n : Nat} {x v e : Int} (h0 : gF k pc = some (67, nx, 0, 0, 0, 0)) (hk : (gK 87)[a]? = some (15, n)) (hn : n ≤ 100000) (hx : 0 ≤ x ∧ x < (n : Int)) (he : (zh v) = e) (kk : zW X d k nx (ls) (st) (zU J a x e) M R P) : zW X d k pc (ls) (zi v :: zi x :: .ref a :: st) J M R P := by
  subst he
  refine w_hast h0 hk (zin hx hn) ?_
  have e1 : Int32.ofInt (zh v) = _ := Int32.ofInt_toInt _
  rw [zi_nat (by omega), ← e1, zI_put hx.1]
  exact kk
theorem z_last {X : Nat × (Nat → Int32)} {d k pc nx : Nat} {ls : List (Option Value)} {st : List Value} {J M : zA} {R : zR} {P : zP} {a n : Nat} {x v e : Int} (h0 : gF k pc = some (65, nx, 0, 0, 0, 0)) (hk : (gK 87)[a]? = some (13, n)) (hn : n ≤ 100000) (hx : 0 ≤ x ∧ x < (n : Int)) (he : v = e) (kk : zW X d k nx (ls) (st) J (zU M a x e) R P) : zW X d k pc (ls) (zl v :: zi x :: .ref a :: st) J M R P := by
  subst he
  refine w_last h0 hk (zin hx hn) ?_
  rw [zi_nat (by omega), zL_put hx.1]
  exact kk
theorem z_alen {X : Nat × (Nat → Int32)} {d k pc nx : Nat} {ls : List (Option Value)} {st : List Value} {J M : zA} {R : zR} {P : zP}  (h0 : gF k pc = some (69, nx, 0, 0, 0, 0)) (kk : zW X d k nx (ls) (zi (X.1 : Int) :: st) J M R P) : zW X d k pc (ls) (.ref 1000 :: st) J M R P := by
  refine w_alen h0 ?_
  rw [← Int32.ofInt_eq_ofNat]
  exact kk
theorem z_callV {X : Nat × (Nat → Int32)} {d k pc nx : Nat} {ls : List (Option Value)} {st : List Value} {J M : zA} {R : zR} {P : zP} {y n b n0 : Nat} {As : List Value} (Rr : zP) (h0 : gF k pc = some (73, nx, y, n, 0, 0)) (h1 : As.length = n) (hk : (gK 87)[b]? = some (gOwn y, n0)) (hc : (st.map fun v => v.category).sum ≤ 8) (hl : (gLay (.ref b :: As)).length ≤ gMx y) (h5 : zW X d y 0 (gEn y (.ref b :: As)) ([]) J M R Rr) (kk : ∀ (r : Option Value) (J2 M2 : zA) (R2 : zR), Rr r J2 M2 R2 → zW X (d + 1) k nx (ls) (r.toList ++ st) J2 M2 R2 P) : zW X (d + 1) k pc (ls) (As.reverse ++ (.ref b :: st)) J M R P := w_callV (zQ Rr) h0 h1 hk hc hl h5 (fun r K2 I2 L2 R2 hr => by
  obtain ⟨J3, M3, R3, h, hp⟩ := hr
  cases h
  exact kk r J3 M3 _ hp)
theorem z_callS {X : Nat × (Nat → Int32)} {d k pc nx : Nat} {ls : List (Option Value)} {st : List Value} {J M : zA} {R : zR} {P : zP} {y n : Nat} {As : List Value} (Rr : zP) (h0 : gF k pc = some (74, nx, y, n, 0, 0)) (h1 : As.length = n) (hc : (st.map fun v => v.category).sum ≤ 8) (hl : (gLay As).length ≤ gMx y) (h5 : zW X d y 0 (gEn y As) ([]) J M R Rr) (kk : ∀ (r : Option Value) (J2 M2 : zA) (R2 : zR), Rr r J2 M2 R2 → zW X (d + 1) k nx (ls) (r.toList ++ st) J2 M2 R2 P) : zW X (d + 1) k pc (ls) (As.reverse ++ st) J M R P := w_callS (zQ Rr) h0 h1 hc hl h5 (fun r K2 I2 L2 R2 hr => by
  obtain ⟨J3, M3, R3, h, hp⟩ := hr
  cases h
  exact kk r J3 M3 _ hp)
theorem z_callVi {X : Nat × (Nat → Int32)} {d k pc nx : Nat} {ls : List (Option Value)} {st : List Value} {J M : zA} {R : zR} {P : zP} {y n b n0 : Nat} {As : List Value} {le : List (Option Value)} (h0 : gF k pc = some (73, nx, y, n, 0, 0)) (h1 : As.length = n) (hk : (gK 87)[b]? = some (gOwn y, n0)) (hc : (st.map fun v => v.category).sum ≤ 8) (hl : (gLay (.ref b :: As)).length ≤ gMx y) (he : gEn y (.ref b :: As) = le) (kk : zW X d y 0 (le) ([]) J M R (fun r J2 M2 R2 => zW X (d + 1) k nx (ls) (r.toList ++ st) J2 M2 R2 P)) : zW X (d + 1) k pc (ls) (As.reverse ++ (.ref b :: st)) J M R P := by
  subst he
  exact z_callV _ h0 h1 hk hc hl kk (fun r J2 M2 R2 h => h)
theorem z_callSi {X : Nat × (Nat → Int32)} {d k pc nx : Nat} {ls : List (Option Value)} {st : List Value} {J M : zA} {R : zR} {P : zP} {y n : Nat} {As : List Value} {le : List (Option Value)} (h0 : gF k pc = some (74, nx, y, n, 0, 0)) (h1 : As.length = n) (hc : (st.map fun v => v.category).sum ≤ 8) (hl : (gLay As).length ≤ gMx y) (he : gEn y As = le) (kk : zW X d y 0 (le) ([]) J M R (fun r J2 M2 R2 => zW X (d + 1) k nx (ls) (r.toList ++ st) J2 M2 R2 P)) : zW X (d + 1) k pc (ls) (As.reverse ++ st) J M R P := by
  subst he
  exact z_callS _ h0 h1 hc hl kk (fun r J2 M2 R2 h => h)
noncomputable abbrev zPu (v : Int) (J M : zA) (R : zR) : zP := fun r J2 M2 R2 => r = some (zi v) ∧ J2 = J ∧ M2 = M ∧ R2 = R
noncomputable abbrev zPl (v : Int) (J M : zA) (R : zR) : zP := fun r J2 M2 R2 => r = some (zl v) ∧ J2 = J ∧ M2 = M ∧ R2 = R
theorem z_callVP {X : Nat × (Nat → Int32)} {d k pc nx : Nat} {ls : List (Option Value)} {st : List Value} {J M : zA} {R : zR} {P : zP} {y n b n0 : Nat} {As : List Value} {v : Int} (h0 : gF k pc = some (73, nx, y, n, 0, 0)) (h1 : As.length = n) (hk : (gK 87)[b]? = some (gOwn y, n0)) (hc : (st.map fun v => v.category).sum ≤ 8) (hl : (gLay (.ref b :: As)).length ≤ gMx y) (h5 : zW X d y 0 (gEn y (.ref b :: As)) ([]) J M R (zPu v J M R)) (kk : zW X (d + 1) k nx (ls) (zi v :: st) J M R P) : zW X (d + 1) k pc (ls) (As.reverse ++ (.ref b :: st)) J M R P := z_callV _ h0 h1 hk hc hl h5 (fun r J2 M2 R2 hr => by
  obtain ⟨rfl, rfl, rfl, rfl⟩ := hr
  exact kk)
theorem z_callVL {X : Nat × (Nat → Int32)} {d k pc nx : Nat} {ls : List (Option Value)} {st : List Value} {J M : zA} {R : zR} {P : zP} {y n b n0 : Nat} {As : List Value} {v : Int} (h0 : gF k pc = some (73, nx, y, n, 0, 0)) (h1 : As.length = n) (hk : (gK 87)[b]? = some (gOwn y, n0)) (hc : (st.map fun v => v.category).sum ≤ 8) (hl : (gLay (.ref b :: As)).length ≤ gMx y) (h5 : zW X d y 0 (gEn y (.ref b :: As)) ([]) J M R (zPl v J M R)) (kk : zW X (d + 1) k nx (ls) (zl v :: st) J M R P) : zW X (d + 1) k pc (ls) (As.reverse ++ (.ref b :: st)) J M R P := z_callV _ h0 h1 hk hc hl h5 (fun r J2 M2 R2 hr => by
  obtain ⟨rfl, rfl, rfl, rfl⟩ := hr
  exact kk)
theorem z_callSP {X : Nat × (Nat → Int32)} {d k pc nx : Nat} {ls : List (Option Value)} {st : List Value} {J M : zA} {R : zR} {P : zP} {y n : Nat} {As : List Value} {v : Int} (h0 : gF k pc = some (74, nx, y, n, 0, 0)) (h1 : As.length = n) (hc : (st.map fun v => v.category).sum ≤ 8) (hl : (gLay As).length ≤ gMx y) (h5 : zW X d y 0 (gEn y As) ([]) J M R (zPu v J M R)) (kk : zW X (d + 1) k nx (ls) (zi v :: st) J M R P) : zW X (d + 1) k pc (ls) (As.reverse ++ st) J M R P := z_callS _ h0 h1 hc hl h5 (fun r J2 M2 R2 hr => by
  obtain ⟨rfl, rfl, rfl, rfl⟩ := hr
  exact kk)
theorem z_callSL {X : Nat × (Nat → Int32)} {d k pc nx : Nat} {ls : List (Option Value)} {st : List Value} {J M : zA} {R : zR} {P : zP} {y n : Nat} {As : List Value} {v : Int} (h0 : gF k pc = some (74, nx, y, n, 0, 0)) (h1 : As.length = n) (hc : (st.map fun v => v.category).sum ≤ 8) (hl : (gLay As).length ≤ gMx y) (h5 : zW X d y 0 (gEn y As) ([]) J M R (zPl v J M R)) (kk : zW X (d + 1) k nx (ls) (zl v :: st) J M R P) : zW X (d + 1) k pc (ls) (As.reverse ++ st) J M R P := z_callS _ h0 h1 hc hl h5 (fun r J2 M2 R2 hr => by
  obtain ⟨rfl, rfl, rfl, rfl⟩ := hr
  exact kk)
/-- just this answer, and just this memory -/
noncomputable abbrev zPx (v : Option Value) (J M : zA) (R : zR) : zP := fun r J2 M2 R2 => r = v ∧ J2 = J ∧ M2 = M ∧ R2 = R
theorem z_callVx {X : Nat × (Nat → Int32)} {d k pc nx : Nat} {ls : List (Option Value)} {st : List Value} {J M : zA} {R : zR} {P : zP} {y n b n0 : Nat} {As : List Value} {v : Option Value} {J3 M3 : zA} {R3 : zR} (h0 : gF k pc = some (73, nx, y, n, 0, 0)) (h1 : As.length = n) (hk : (gK 87)[b]? = some (gOwn y, n0)) (hc : (st.map fun v => v.category).sum ≤ 8) (hl : (gLay (.ref b :: As)).length ≤ gMx y) (h5 : zW X d y 0 (gEn y (.ref b :: As)) ([]) J M R (zPx v J3 M3 R3)) (kk : zW X (d + 1) k nx (ls) (v.toList ++ st) J3 M3 R3 P) : zW X (d + 1) k pc (ls) (As.reverse ++ (.ref b :: st)) J M R P := z_callV _ h0 h1 hk hc hl h5 (fun r J2 M2 R2 hr => by
  obtain ⟨rfl, rfl, rfl, rfl⟩ := hr
  exact kk)
theorem z_callSx {X : Nat × (Nat → Int32)} {d k pc nx : Nat} {ls : List (Option Value)} {st : List Value} {J M : zA} {R : zR} {P : zP} {y n : Nat} {As : List Value} {v : Option Value} {J3 M3 : zA} {R3 : zR} (h0 : gF k pc = some (74, nx, y, n, 0, 0)) (h1 : As.length = n) (hc : (st.map fun v => v.category).sum ≤ 8) (hl : (gLay As).length ≤ gMx y) (h5 : zW X d y 0 (gEn y As) ([]) J M R (zPx v J3 M3 R3)) (kk : zW X (d + 1) k nx (ls) (v.toList ++ st) J3 M3 R3 P) : zW X (d + 1) k pc (ls) (As.reverse ++ st) J M R P := z_callS _ h0 h1 hc hl h5 (fun r J2 M2 R2 hr => by
  obtain ⟨rfl, rfl, rfl, rfl⟩ := hr
  exact kk)
noncomputable def zC (J : zA) (a b : Nat) (sp dp n : Int) : zA := fun x y => if x = b then (if dp ≤ y ∧ y < dp + n then J a (sp + (y - dp)) else J b y) else J x y
theorem zI_copy {J : zA} {a b : Nat} {sp dp n : Int} (h1 : 0 ≤ sp) (h2 : 0 ≤ dp) (h3 : 0 ≤ n) : gCopy (zI J) a b sp.toNat dp.toNat n.toNat = zI (zC J a b sp dp n) := by
  funext x j
  unfold gCopy zI zC va_cpy
  by_cases hx : x = b
  · rw [if_pos hx, if_pos hx]
    by_cases hc : dp.toNat ≤ j ∧ j < dp.toNat + n.toNat
    · rw [if_pos hc, if_pos (by omega)]
      have e : (((sp.toNat + (j - dp.toNat) : Nat)) : Int) = sp + ((j : Int) - dp) := by omega
      show Int32.ofInt (J a ((sp.toNat + (j - dp.toNat) : Nat) : Int)) = _
      rw [e]
    · rw [if_neg hc, if_neg (by omega)]
  · rw [if_neg hx, if_neg hx]
theorem zL_copy {J : zA} {a b : Nat} {sp dp n : Int} (h1 : 0 ≤ sp) (h2 : 0 ≤ dp) (h3 : 0 ≤ n) : gCopy (zL J) a b sp.toNat dp.toNat n.toNat = zL (zC J a b sp dp n) := by
  funext x j
  unfold gCopy zL zC va_cpy
  by_cases hx : x = b
  · rw [if_pos hx, if_pos hx]
    by_cases hc : dp.toNat ≤ j ∧ j < dp.toNat + n.toNat
    · rw [if_pos hc, if_pos (by omega)]
      have e : (((sp.toNat + (j - dp.toNat) : Nat)) : Int) = sp + ((j : Int) - dp) := by omega
      show Int64.ofInt (J a ((sp.toNat + (j - dp.toNat) : Nat) : Int)) = _
      rw [e]
    · rw [if_neg hc, if_neg (by omega)]
  · rw [if_neg hx, if_neg hx]
theorem z_copyI {X : Nat × (Nat → Int32)} {d k pc nx : Nat} {ls : List (Option Value)} {st : List Value} {J M : zA} {R : zR} {P : zP} {a b n0 n1 : Nat} {sp dp n : Int} (h0 : gF k pc = some (77, nx, 0, 0, 0, 0)) (hk : (gK 87)[a]? = some (12, n0)) (hk2 : (gK 87)[b]? = some (12, n1)) (hn0 : n0 ≤ 100000) (hn1 : n1 ≤ 100000) (h1 : 0 ≤ sp) (h2 : 0 ≤ dp) (h3 : 0 ≤ n) (h4 : sp + n ≤ (n0 : Int)) (h5 : dp + n ≤ (n1 : Int)) (hc : (st.map fun v => v.category).sum ≤ 8) (kk : zW X (d + 1) k nx (ls) (st) (zC J a b sp dp n) M R P) : zW X (d + 1) k pc (ls) (zi n :: zi dp :: .ref b :: zi sp :: .ref a :: st) J M R P := by
  have z0 : (0 : Int32) = Int32.ofInt 0 := rfl
  refine w_copyI h0 hk hk2 (by rw [z0, zi_lt (by omega) (by omega)]; omega) (by rw [z0, zi_lt (by omega) (by omega)]; omega) (by rw [z0, zi_lt (by omega) (by omega)]; omega) (by rw [zi_nat (by omega), zi_nat (by omega)]; omega) (by rw [zi_nat (by omega), zi_nat (by omega)]; omega) hc ?_
  rw [zi_nat (by omega), zi_nat (by omega), zi_nat (by omega), zI_copy h1 h2 h3]
  exact kk
theorem z_copyL {X : Nat × (Nat → Int32)} {d k pc nx : Nat} {ls : List (Option Value)} {st : List Value} {J M : zA} {R : zR} {P : zP} {a b n0 n1 : Nat} {sp dp n : Int} (h0 : gF k pc = some (77, nx, 0, 0, 0, 0)) (hk : (gK 87)[a]? = some (13, n0)) (hk2 : (gK 87)[b]? = some (13, n1)) (hn0 : n0 ≤ 100000) (hn1 : n1 ≤ 100000) (h1 : 0 ≤ sp) (h2 : 0 ≤ dp) (h3 : 0 ≤ n) (h4 : sp + n ≤ (n0 : Int)) (h5 : dp + n ≤ (n1 : Int)) (hc : (st.map fun v => v.category).sum ≤ 8) (kk : zW X (d + 1) k nx (ls) (st) J (zC M a b sp dp n) R P) : zW X (d + 1) k pc (ls) (zi n :: zi dp :: .ref b :: zi sp :: .ref a :: st) J M R P := by
  have z0 : (0 : Int32) = Int32.ofInt 0 := rfl
  refine w_copyL h0 hk hk2 (by rw [z0, zi_lt (by omega) (by omega)]; omega) (by rw [z0, zi_lt (by omega) (by omega)]; omega) (by rw [z0, zi_lt (by omega) (by omega)]; omega) (by rw [zi_nat (by omega), zi_nat (by omega)]; omega) (by rw [zi_nat (by omega), zi_nat (by omega)]; omega) hc ?_
  rw [zi_nat (by omega), zi_nat (by omega), zi_nat (by omega), zL_copy h1 h2 h3]
  exact kk
theorem z_iret {X : Nat × (Nat → Int32)} {d k pc nx : Nat} {ls : List (Option Value)} {J M : zA} {R : zR} {P : zP} {x : Int} (h0 : gF k pc = some (79, nx, 0, 0, 0, 0)) (h1 : gRt k = some .int) (hP : P (some (zi x)) J M R) : zW X d k pc ls [zi x] J M R P := w_iret h0 (Or.inl h1) ⟨J, M, R, rfl, hP⟩
theorem z_bret {X : Nat × (Nat → Int32)} {d k pc nx : Nat} {ls : List (Option Value)} {J M : zA} {R : zR} {P : zP} {x : Int} (h0 : gF k pc = some (79, nx, 0, 0, 0, 0)) (h1 : gRt k = some .boolean) (hb : x = 0 ∨ x = 1) (hP : P (some (zi x)) J M R) : zW X d k pc ls [zi x] J M R P := w_iret h0 (Or.inr ⟨h1, by rcases hb with rfl | rfl; exact Or.inl rfl; exact Or.inr rfl⟩) ⟨J, M, R, rfl, hP⟩
theorem z_lret {X : Nat × (Nat → Int32)} {d k pc nx : Nat} {ls : List (Option Value)} {J M : zA} {R : zR} {P : zP} {x : Int} (h0 : gF k pc = some (80, nx, 0, 0, 0, 0)) (h1 : gRt k = some .long) (hP : P (some (zl x)) J M R) : zW X d k pc ls [zl x] J M R P := w_lret h0 h1 ⟨J, M, R, rfl, hP⟩
theorem z_vret {X : Nat × (Nat → Int32)} {d k pc nx : Nat} {ls : List (Option Value)} {J M : zA} {R : zR} {P : zP} (h0 : gF k pc = some (81, nx, 0, 0, 0, 0)) (h1 : gRt k = none) (hP : P none J M R) : zW X d k pc ls [] J M R P := w_vret h0 h1 ⟨J, M, R, rfl, hP⟩
noncomputable def zSw (k pc : Nat) : List (Int × Nat) := (gSw k pc).map fun q => (q.1.toInt, q.2)
theorem z_sw {X : Nat × (Nat → Int32)} {d k pc nx : Nat} {ls : List (Option Value)} {st : List Value} {J M : zA} {R : zR} {P : zP} {x : Int} {T : List (Int × Nat)} (h0 : gF k pc = some (82, nx, 0, 0, 0, 0)) (hx : (-2147483648 ≤ x ∧ x < 2147483648)) (hT : zSw k pc = T) (kt : ∀ q ∈ T, x = q.1 → zW X d k q.2 (ls) (st) J M R P) (kf : (∀ q ∈ T, ¬ x = q.1) → zW X d k nx (ls) (st) J M R P) : zW X d k pc (ls) (zi x :: st) J M R P := by
  subst hT
  refine w_sw h0 (fun q hq hh => kt (q.1.toInt, q.2) (List.mem_map.mpr ⟨q, hq, rfl⟩) ?_) (fun hq => kf (fun q h1 h2 => ?_))
  · rw [← hh, zi_r hx]
  · obtain ⟨p, hp, rfl⟩ := List.mem_map.mp h1
    refine hq p hp ?_
    rw [h2]
    exact Int32.ofInt_toInt _
theorem z_mmax {X : Nat × (Nat → Int32)} {d k pc nx : Nat} {ls : List (Option Value)} {st : List Value} {J M : zA} {R : zR} {P : zP} {x y e : Int} (h0 : gF k pc = some (83, nx, 0, 0, 0, 0)) (hx : (-2147483648 ≤ x ∧ x < 2147483648)) (hy : (-2147483648 ≤ y ∧ y < 2147483648)) (hc : (st.map fun v => v.category).sum ≤ 8) (he : (if x < y then y else x) = e) (kk : zW X (d + 1) k nx (ls) (zi e :: st) J M R P) : zW X (d + 1) k pc (ls) (zi y :: zi x :: st) J M R P := by
  subst he
  refine w_mmax h0 hc ?_
  have e1 : (if Int32.ofInt x < Int32.ofInt y then Int32.ofInt y else Int32.ofInt x) = Int32.ofInt (if x < y then y else x) := by
    by_cases h : x < y
    · rw [if_pos h, if_pos ((zi_lt hx hy).mpr h)]
    · rw [if_neg h, if_neg (fun q => h ((zi_lt hx hy).mp q))]
  rw [e1]
  exact kk
theorem z_mmin {X : Nat × (Nat → Int32)} {d k pc nx : Nat} {ls : List (Option Value)} {st : List Value} {J M : zA} {R : zR} {P : zP} {x y e : Int} (h0 : gF k pc = some (84, nx, 0, 0, 0, 0)) (hx : (-2147483648 ≤ x ∧ x < 2147483648)) (hy : (-2147483648 ≤ y ∧ y < 2147483648)) (hc : (st.map fun v => v.category).sum ≤ 8) (he : (if y < x then y else x) = e) (kk : zW X (d + 1) k nx (ls) (zi e :: st) J M R P) : zW X (d + 1) k pc (ls) (zi y :: zi x :: st) J M R P := by
  subst he
  refine w_mmin h0 hc ?_
  have e1 : (if Int32.ofInt y < Int32.ofInt x then Int32.ofInt y else Int32.ofInt x) = Int32.ofInt (if y < x then y else x) := by
    by_cases h : y < x
    · rw [if_pos h, if_pos ((zi_lt hy hx).mpr h)]
    · rw [if_neg h, if_neg (fun q => h ((zi_lt hy hx).mp q))]
  rw [e1]
  exact kk
theorem z_mabs {X : Nat × (Nat → Int32)} {d k pc nx : Nat} {ls : List (Option Value)} {st : List Value} {J M : zA} {R : zR} {P : zP} {x e : Int} (h0 : gF k pc = some (85, nx, 0, 0, 0, 0)) (hx : (-2147483648 ≤ x ∧ x < 2147483648)) (hc : (st.map fun v => v.category).sum ≤ 8) (he : (if 0 ≤ x then x else -x) = e) (kk : zW X (d + 1) k nx (ls) (zi e :: st) J M R P) : zW X (d + 1) k pc (ls) (zi x :: st) J M R P := by
  subst he
  refine w_mabs h0 hc ?_
  have z0 : (0 : Int32) = Int32.ofInt 0 := rfl
  have e1 : (if 0 ≤ Int32.ofInt x then Int32.ofInt x else 0 - Int32.ofInt x) = Int32.ofInt (if 0 ≤ x then x else -x) := by
    rw [z0]
    by_cases h : 0 ≤ x
    · rw [if_pos h, if_pos ((zi_le (by omega) hx).mpr h)]
    · rw [if_neg h, if_neg (fun q => h ((zi_le (by omega) hx).mp q)), ← Int32.ofInt_sub]
      congr 1
      omega
  rw [e1]
  exact kk
theorem zQ_m {P P' : zP} (h : ∀ r J M R, P r J M R → P' r J M R) {r : Option Value} {σ : gM} (q : zQ P r σ) : zQ P' r σ := by
  obtain ⟨J, M, R, e, hp⟩ := q
  exact ⟨J, M, R, e, h r J M R hp⟩
