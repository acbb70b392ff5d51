theorem gU_n {α : Type} {f : Nat → Nat → α} {a k x j : Nat} {v : α} (h : x ≠ a ∨ j ≠ k) : gU f a k v x j = f x j := by
  unfold gU
  by_cases h1 : x = a
  · rw [if_pos h1]
    by_cases h2 : j = k
    · rcases h with h | h
      · exact absurd h1 h
      · exact absurd h2 h
    · rw [if_neg h2]
  · rw [if_neg h1]
theorem gCopy_n {α : Type} {f : Nat → Nat → α} {a b sp dp n x j : Nat} (h : x ≠ b) : gCopy f a b sp dp n x j = f x j := by simp [gCopy, h]
theorem w_iaddv {X : Nat × (Nat → Int32)} {d k pc nx mc ms : Nat} {ls : List (Option Value)} {st : List Value} {Kd : List (Nat × Nat)} {I : Nat → Nat → Int32} {L : Nat → Nat → Int64} {R : Nat → Nat → Option Nat} {Q : gQ} {x y z : Int32} (h0 : gF k pc = some (10, nx, 0, 0, 0, 0)) (hv : x + y = z) (kk : gW X d k nx mc ms ls (.int z :: st) (Kd, I, L, R) Q) : gW X d k pc mc ms ls (.int y :: .int x :: st) (Kd, I, L, R) Q := by
  subst hv
  exact w_iadd h0 kk
theorem w_isubv {X : Nat × (Nat → Int32)} {d k pc nx mc ms : Nat} {ls : List (Option Value)} {st : List Value} {Kd : List (Nat × Nat)} {I : Nat → Nat → Int32} {L : Nat → Nat → Int64} {R : Nat → Nat → Option Nat} {Q : gQ} {x y z : Int32} (h0 : gF k pc = some (11, nx, 0, 0, 0, 0)) (hv : x - y = z) (kk : gW X d k nx mc ms ls (.int z :: st) (Kd, I, L, R) Q) : gW X d k pc mc ms ls (.int y :: .int x :: st) (Kd, I, L, R) Q := by
  subst hv
  exact w_isub h0 kk
theorem w_imulv {X : Nat × (Nat → Int32)} {d k pc nx mc ms : Nat} {ls : List (Option Value)} {st : List Value} {Kd : List (Nat × Nat)} {I : Nat → Nat → Int32} {L : Nat → Nat → Int64} {R : Nat → Nat → Option Nat} {Q : gQ} {x y z : Int32} (h0 : gF k pc = some (12, nx, 0, 0, 0, 0)) (hv : x * y = z) (kk : gW X d k nx mc ms ls (.int z :: st) (Kd, I, L, R) Q) : gW X d k pc mc ms ls (.int y :: .int x :: st) (Kd, I, L, R) Q := by
  subst hv
  exact w_imul h0 kk
theorem w_iandv {X : Nat × (Nat → Int32)} {d k pc nx mc ms : Nat} {ls : List (Option Value)} {st : List Value} {Kd : List (Nat × Nat)} {I : Nat → Nat → Int32} {L : Nat → Nat → Int64} {R : Nat → Nat → Option Nat} {Q : gQ} {x y z : Int32} (h0 : gF k pc = some (13, nx, 0, 0, 0, 0)) (hv : x &&& y = z) (kk : gW X d k nx mc ms ls (.int z :: st) (Kd, I, L, R) Q) : gW X d k pc mc ms ls (.int y :: .int x :: st) (Kd, I, L, R) Q := by
  subst hv
  exact w_iand h0 kk
theorem w_iorv {X : Nat × (Nat → Int32)} {d k pc nx mc ms : Nat} {ls : List (Option Value)} {st : List Value} {Kd : List (Nat × Nat)} {I : Nat → Nat → Int32} {L : Nat → Nat → Int64} {R : Nat → Nat → Option Nat} {Q : gQ} {x y z : Int32} (h0 : gF k pc = some (14, nx, 0, 0, 0, 0)) (hv : x ||| y = z) (kk : gW X d k nx mc ms ls (.int z :: st) (Kd, I, L, R) Q) : gW X d k pc mc ms ls (.int y :: .int x :: st) (Kd, I, L, R) Q := by
  subst hv
  exact w_ior h0 kk
theorem w_ixorv {X : Nat × (Nat → Int32)} {d k pc nx mc ms : Nat} {ls : List (Option Value)} {st : List Value} {Kd : List (Nat × Nat)} {I : Nat → Nat → Int32} {L : Nat → Nat → Int64} {R : Nat → Nat → Option Nat} {Q : gQ} {x y z : Int32} (h0 : gF k pc = some (15, nx, 0, 0, 0, 0)) (hv : x ^^^ y = z) (kk : gW X d k nx mc ms ls (.int z :: st) (Kd, I, L, R) Q) : gW X d k pc mc ms ls (.int y :: .int x :: st) (Kd, I, L, R) Q := by
  subst hv
  exact w_ixor h0 kk
theorem w_ishlv {X : Nat × (Nat → Int32)} {d k pc nx mc ms : Nat} {ls : List (Option Value)} {st : List Value} {Kd : List (Nat × Nat)} {I : Nat → Nat → Int32} {L : Nat → Nat → Int64} {R : Nat → Nat → Option Nat} {Q : gQ} {x y z : Int32} (h0 : gF k pc = some (16, nx, 0, 0, 0, 0)) (hv : x <<< (y &&& 31) = z) (kk : gW X d k nx mc ms ls (.int z :: st) (Kd, I, L, R) Q) : gW X d k pc mc ms ls (.int y :: .int x :: st) (Kd, I, L, R) Q := by
  subst hv
  exact w_ishl h0 kk
theorem w_ishrv {X : Nat × (Nat → Int32)} {d k pc nx mc ms : Nat} {ls : List (Option Value)} {st : List Value} {Kd : List (Nat × Nat)} {I : Nat → Nat → Int32} {L : Nat → Nat → Int64} {R : Nat → Nat → Option Nat} {Q : gQ} {x y z : Int32} (h0 : gF k pc = some (17, nx, 0, 0, 0, 0)) (hv : x >>> (y &&& 31) = z) (kk : gW X d k nx mc ms ls (.int z :: st) (Kd, I, L, R) Q) : gW X d k pc mc ms ls (.int y :: .int x :: st) (Kd, I, L, R) Q := by
  subst hv
  exact w_ishr h0 kk
theorem w_iushrv {X : Nat × (Nat → Int32)} {d k pc nx mc ms : Nat} {ls : List (Option Value)} {st : List Value} {Kd : List (Nat × Nat)} {I : Nat → Nat → Int32} {L : Nat → Nat → Int64} {R : Nat → Nat → Option Nat} {Q : gQ} {x y z : Int32} (h0 : gF k pc = some (18, nx, 0, 0, 0, 0)) (hv : (x.toUInt32 >>> (y.toUInt32 &&& Int32.toUInt32 31)).toInt32 = z) (kk : gW X d k nx mc ms ls (.int z :: st) (Kd, I, L, R) Q) : gW X d k pc mc ms ls (.int y :: .int x :: st) (Kd, I, L, R) Q := by
  subst hv
  exact w_iushr h0 kk
theorem w_idivv {X : Nat × (Nat → Int32)} {d k pc nx mc ms : Nat} {ls : List (Option Value)} {st : List Value} {Kd : List (Nat × Nat)} {I : Nat → Nat → Int32} {L : Nat → Nat → Int64} {R : Nat → Nat → Option Nat} {Q : gQ} {x y z : Int32} (h0 : gF k pc = some (19, nx, 0, 0, 0, 0)) (hne : ¬ y = 0) (hv : x / y = z) (kk : gW X d k nx mc ms ls (.int z :: st) (Kd, I, L, R) Q) : gW X d k pc mc ms ls (.int y :: .int x :: st) (Kd, I, L, R) Q := by
  subst hv
  exact w_idiv h0 hne kk
theorem w_iremv {X : Nat × (Nat → Int32)} {d k pc nx mc ms : Nat} {ls : List (Option Value)} {st : List Value} {Kd : List (Nat × Nat)} {I : Nat → Nat → Int32} {L : Nat → Nat → Int64} {R : Nat → Nat → Option Nat} {Q : gQ} {x y z : Int32} (h0 : gF k pc = some (20, nx, 0, 0, 0, 0)) (hne : ¬ y = 0) (hv : x - x / y * y = z) (kk : gW X d k nx mc ms ls (.int z :: st) (Kd, I, L, R) Q) : gW X d k pc mc ms ls (.int y :: .int x :: st) (Kd, I, L, R) Q := by
  subst hv
  exact w_irem h0 hne kk
theorem w_laddv {X : Nat × (Nat → Int32)} {d k pc nx mc ms : Nat} {ls : List (Option Value)} {st : List Value} {Kd : List (Nat × Nat)} {I : Nat → Nat → Int32} {L : Nat → Nat → Int64} {R : Nat → Nat → Option Nat} {Q : gQ} {x y z : Int64} (h0 : gF k pc = some (22, nx, 0, 0, 0, 0)) (hv : x + y = z) (kk : gW X d k nx mc ms ls (.long z :: st) (Kd, I, L, R) Q) : gW X d k pc mc ms ls (.long y :: .long x :: st) (Kd, I, L, R) Q := by
  subst hv
  exact w_ladd h0 kk
theorem w_lsubv {X : Nat × (Nat → Int32)} {d k pc nx mc ms : Nat} {ls : List (Option Value)} {st : List Value} {Kd : List (Nat × Nat)} {I : Nat → Nat → Int32} {L : Nat → Nat → Int64} {R : Nat → Nat → Option Nat} {Q : gQ} {x y z : Int64} (h0 : gF k pc = some (23, nx, 0, 0, 0, 0)) (hv : x - y = z) (kk : gW X d k nx mc ms ls (.long z :: st) (Kd, I, L, R) Q) : gW X d k pc mc ms ls (.long y :: .long x :: st) (Kd, I, L, R) Q := by
  subst hv
  exact w_lsub h0 kk
theorem w_lmulv {X : Nat × (Nat → Int32)} {d k pc nx mc ms : Nat} {ls : List (Option Value)} {st : List Value} {Kd : List (Nat × Nat)} {I : Nat → Nat → Int32} {L : Nat → Nat → Int64} {R : Nat → Nat → Option Nat} {Q : gQ} {x y z : Int64} (h0 : gF k pc = some (24, nx, 0, 0, 0, 0)) (hv : x * y = z) (kk : gW X d k nx mc ms ls (.long z :: st) (Kd, I, L, R) Q) : gW X d k pc mc ms ls (.long y :: .long x :: st) (Kd, I, L, R) Q := by
  subst hv
  exact w_lmul h0 kk
theorem w_landv {X : Nat × (Nat → Int32)} {d k pc nx mc ms : Nat} {ls : List (Option Value)} {st : List Value} {Kd : List (Nat × Nat)} {I : Nat → Nat → Int32} {L : Nat → Nat → Int64} {R : Nat → Nat → Option Nat} {Q : gQ} {x y z : Int64} (h0 : gF k pc = some (25, nx, 0, 0, 0, 0)) (hv : x &&& y = z) (kk : gW X d k nx mc ms ls (.long z :: st) (Kd, I, L, R) Q) : gW X d k pc mc ms ls (.long y :: .long x :: st) (Kd, I, L, R) Q := by
  subst hv
  exact w_land h0 kk
theorem w_lorv {X : Nat × (Nat → Int32)} {d k pc nx mc ms : Nat} {ls : List (Option Value)} {st : List Value} {Kd : List (Nat × Nat)} {I : Nat → Nat → Int32} {L : Nat → Nat → Int64} {R : Nat → Nat → Option Nat} {Q : gQ} {x y z : Int64} (h0 : gF k pc = some (26, nx, 0, 0, 0, 0)) (hv : x ||| y = z) (kk : gW X d k nx mc ms ls (.long z :: st) (Kd, I, L, R) Q) : gW X d k pc mc ms ls (.long y :: .long x :: st) (Kd, I, L, R) Q := by
  subst hv
  exact w_lor h0 kk
theorem w_ldivv {X : Nat × (Nat → Int32)} {d k pc nx mc ms : Nat} {ls : List (Option Value)} {st : List Value} {Kd : List (Nat × Nat)} {I : Nat → Nat → Int32} {L : Nat → Nat → Int64} {R : Nat → Nat → Option Nat} {Q : gQ} {x y z : Int64} (h0 : gF k pc = some (27, nx, 0, 0, 0, 0)) (hne : ¬ y = 0) (hv : x / y = z) (kk : gW X d k nx mc ms ls (.long z :: st) (Kd, I, L, R) Q) : gW X d k pc mc ms ls (.long y :: .long x :: st) (Kd, I, L, R) Q := by
  subst hv
  exact w_ldiv h0 hne kk
theorem w_lcmpv {X : Nat × (Nat → Int32)} {d k pc nx mc ms : Nat} {ls : List (Option Value)} {st : List Value} {Kd : List (Nat × Nat)} {I : Nat → Nat → Int32} {L : Nat → Nat → Int64} {R : Nat → Nat → Option Nat} {Q : gQ} {x y : Int64} {z : Int32} (h0 : gF k pc = some (33, nx, 0, 0, 0, 0)) (hv : lg_cmp x y = z) (kk : gW X d k nx mc ms ls (.int z :: st) (Kd, I, L, R) Q) : gW X d k pc mc ms ls (.long y :: .long x :: st) (Kd, I, L, R) Q := by
  subst hv
  exact w_lcmp h0 kk
theorem w_inegv {X : Nat × (Nat → Int32)} {d k pc nx mc ms : Nat} {ls : List (Option Value)} {st : List Value} {Kd : List (Nat × Nat)} {I : Nat → Nat → Int32} {L : Nat → Nat → Int64} {R : Nat → Nat → Option Nat} {Q : gQ} {x : Int32} {z : Int32} (h0 : gF k pc = some (21, nx, 0, 0, 0, 0)) (hv : -x = z) (kk : gW X d k nx mc ms ls (.int z :: st) (Kd, I, L, R) Q) : gW X d k pc mc ms ls (.int x :: st) (Kd, I, L, R) Q := by
  subst hv
  exact w_ineg h0 kk
theorem w_i2lv {X : Nat × (Nat → Int32)} {d k pc nx mc ms : Nat} {ls : List (Option Value)} {st : List Value} {Kd : List (Nat × Nat)} {I : Nat → Nat → Int32} {L : Nat → Nat → Int64} {R : Nat → Nat → Option Nat} {Q : gQ} {x : Int32} {z : Int64} (h0 : gF k pc = some (29, nx, 0, 0, 0, 0)) (hv : x.toInt64 = z) (kk : gW X d k nx mc ms ls (.long z :: st) (Kd, I, L, R) Q) : gW X d k pc mc ms ls (.int x :: st) (Kd, I, L, R) Q := by
  subst hv
  exact w_i2l h0 kk
theorem w_l2iv {X : Nat × (Nat → Int32)} {d k pc nx mc ms : Nat} {ls : List (Option Value)} {st : List Value} {Kd : List (Nat × Nat)} {I : Nat → Nat → Int32} {L : Nat → Nat → Int64} {R : Nat → Nat → Option Nat} {Q : gQ} {x : Int64} {z : Int32} (h0 : gF k pc = some (30, nx, 0, 0, 0, 0)) (hv : x.toInt32 = z) (kk : gW X d k nx mc ms ls (.int z :: st) (Kd, I, L, R) Q) : gW X d k pc mc ms ls (.long x :: st) (Kd, I, L, R) Q := by
  subst hv
  exact w_l2i h0 kk
theorem w_i2bv {X : Nat × (Nat → Int32)} {d k pc nx mc ms : Nat} {ls : List (Option Value)} {st : List Value} {Kd : List (Nat × Nat)} {I : Nat → Nat → Int32} {L : Nat → Nat → Int64} {R : Nat → Nat → Option Nat} {Q : gQ} {x : Int32} {z : Int32} (h0 : gF k pc = some (31, nx, 0, 0, 0, 0)) (hv : x.toInt8.toInt32 = z) (kk : gW X d k nx mc ms ls (.int z :: st) (Kd, I, L, R) Q) : gW X d k pc mc ms ls (.int x :: st) (Kd, I, L, R) Q := by
  subst hv
  exact w_i2b h0 kk
theorem w_i2sv {X : Nat × (Nat → Int32)} {d k pc nx mc ms : Nat} {ls : List (Option Value)} {st : List Value} {Kd : List (Nat × Nat)} {I : Nat → Nat → Int32} {L : Nat → Nat → Int64} {R : Nat → Nat → Option Nat} {Q : gQ} {x : Int32} {z : Int32} (h0 : gF k pc = some (32, nx, 0, 0, 0, 0)) (hv : x.toInt16.toInt32 = z) (kk : gW X d k nx mc ms ls (.int z :: st) (Kd, I, L, R) Q) : gW X d k pc mc ms ls (.int x :: st) (Kd, I, L, R) Q := by
  subst hv
  exact w_i2s h0 kk
theorem w_iincv {X : Nat × (Nat → Int32)} {d k pc nx mc ms : Nat} {ls : List (Option Value)} {st : List Value} {Kd : List (Nat × Nat)} {I : Nat → Nat → Int32} {L : Nat → Nat → Int64} {R : Nat → Nat → Option Nat} {Q : gQ} {i : Nat} {x v z : Int32} {ls1 : List (Option Value)} (h0 : gF k pc = some (8, nx, i, 0, v, 0)) (hl : ls[i]? = some (some (.int x))) (hv : x + v = z) (hs : gSet ls i (.int z) = ls1) (kk : gW X d k nx mc ms ls1 (st) (Kd, I, L, R) Q) : gW X d k pc mc ms ls (st) (Kd, I, L, R) Q := by
  subst hv
  exact w_iinc h0 hl hs kk
theorem w_getIv {X : Nat × (Nat → Int32)} {d k pc nx mc ms : Nat} {ls : List (Option Value)} {st : List Value} {Kd : List (Nat × Nat)} {I : Nat → Nat → Int32} {L : Nat → Nat → Int64} {R : Nat → Nat → Option Nat} {Q : gQ} {ci f a n : Nat} {x : Int32} (h0 : gF k pc = some (50, nx, ci, f, 0, 0)) (hk : Kd[a]? = some (ci, n)) (hv : I a f = x) (kk : gW X d k nx mc ms ls (.int x :: st) (Kd, I, L, R) Q) : gW X d k pc mc ms ls (.ref a :: st) (Kd, I, L, R) Q := by
  subst hv
  exact w_getI h0 hk kk
theorem w_getLv {X : Nat × (Nat → Int32)} {d k pc nx mc ms : Nat} {ls : List (Option Value)} {st : List Value} {Kd : List (Nat × Nat)} {I : Nat → Nat → Int32} {L : Nat → Nat → Int64} {R : Nat → Nat → Option Nat} {Q : gQ} {ci f a n : Nat} {x : Int64} (h0 : gF k pc = some (51, nx, ci, f, 0, 0)) (hk : Kd[a]? = some (ci, n)) (hv : L a f = x) (kk : gW X d k nx mc ms ls (.long x :: st) (Kd, I, L, R) Q) : gW X d k pc mc ms ls (.ref a :: st) (Kd, I, L, R) Q := by
  subst hv
  exact w_getL h0 hk kk
theorem w_ialdv {X : Nat × (Nat → Int32)} {d k pc nx mc ms : Nat} {ls : List (Option Value)} {st : List Value} {Kd : List (Nat × Nat)} {I : Nat → Nat → Int32} {L : Nat → Nat → Int64} {R : Nat → Nat → Option Nat} {Q : gQ} {a n j : Nat} {i : Int32} {x : Int32} (h0 : gF k pc = some (58, nx, 0, 0, 0, 0)) (hk : Kd[a]? = some (12, n)) (hj : i.toNatClampNeg = j) (hin : vp_in i n) (hv : I a j = x) (kk : gW X d k nx mc ms ls (.int x :: st) (Kd, I, L, R) Q) : gW X d k pc mc ms ls (.int i :: .ref a :: st) (Kd, I, L, R) Q := by
  subst hj
  subst hv
  exact w_iald h0 hk hin kk
theorem w_baldv {X : Nat × (Nat → Int32)} {d k pc nx mc ms : Nat} {ls : List (Option Value)} {st : List Value} {Kd : List (Nat × Nat)} {I : Nat → Nat → Int32} {L : Nat → Nat → Int64} {R : Nat → Nat → Option Nat} {Q : gQ} {a n j : Nat} {i : Int32} {x : Int32} (h0 : gF k pc = some (61, nx, 0, 0, 0, 0)) (hk : Kd[a]? = some (14, n)) (hj : i.toNatClampNeg = j) (hin : vp_in i n) (hv : I a j = x) (kk : gW X d k nx mc ms ls (.int x :: st) (Kd, I, L, R) Q) : gW X d k pc mc ms ls (.int i :: .ref a :: st) (Kd, I, L, R) Q := by
  subst hj
  subst hv
  exact w_bald h0 hk hin kk
theorem w_haldv {X : Nat × (Nat → Int32)} {d k pc nx mc ms : Nat} {ls : List (Option Value)} {st : List Value} {Kd : List (Nat × Nat)} {I : Nat → Nat → Int32} {L : Nat → Nat → Int64} {R : Nat → Nat → Option Nat} {Q : gQ} {a n j : Nat} {i : Int32} {x : Int32} (h0 : gF k pc = some (62, nx, 0, 0, 0, 0)) (hk : Kd[a]? = some (15, n)) (hj : i.toNatClampNeg = j) (hin : vp_in i n) (hv : I a j = x) (kk : gW X d k nx mc ms ls (.int x :: st) (Kd, I, L, R) Q) : gW X d k pc mc ms ls (.int i :: .ref a :: st) (Kd, I, L, R) Q := by
  subst hj
  subst hv
  exact w_hald h0 hk hin kk
theorem w_laldv {X : Nat × (Nat → Int32)} {d k pc nx mc ms : Nat} {ls : List (Option Value)} {st : List Value} {Kd : List (Nat × Nat)} {I : Nat → Nat → Int32} {L : Nat → Nat → Int64} {R : Nat → Nat → Option Nat} {Q : gQ} {a n j : Nat} {i : Int32} {x : Int64} (h0 : gF k pc = some (59, nx, 0, 0, 0, 0)) (hk : Kd[a]? = some (13, n)) (hj : i.toNatClampNeg = j) (hin : vp_in i n) (hv : L a j = x) (kk : gW X d k nx mc ms ls (.long x :: st) (Kd, I, L, R) Q) : gW X d k pc mc ms ls (.int i :: .ref a :: st) (Kd, I, L, R) Q := by
  subst hj
  subst hv
  exact w_lald h0 hk hin kk
theorem w_aaldv {X : Nat × (Nat → Int32)} {d k pc nx mc ms : Nat} {ls : List (Option Value)} {st : List Value} {Kd : List (Nat × Nat)} {I : Nat → Nat → Int32} {L : Nat → Nat → Int64} {R : Nat → Nat → Option Nat} {Q : gQ} {a n r j : Nat} {i : Int32} (h0 : gF k pc = some (60, nx, 0, 0, 0, 0)) (hk : Kd[a]? = some (16, n)) (hj : i.toNatClampNeg = j) (hin : vp_in i n) (hv : R a j = some r) (kk : gW X d k nx mc ms ls (.ref r :: st) (Kd, I, L, R) Q) : gW X d k pc mc ms ls (.int i :: .ref a :: st) (Kd, I, L, R) Q := by
  subst hj
  exact w_aald h0 hk hin hv kk
theorem w_saldv {X : Nat × (Nat → Int32)} {d k pc nx mc ms : Nat} {ls : List (Option Value)} {st : List Value} {Kd : List (Nat × Nat)} {I : Nat → Nat → Int32} {L : Nat → Nat → Int64} {R : Nat → Nat → Option Nat} {Q : gQ} {j n q : Nat} {i x : Int32} (h0 : gF k pc = some (58, nx, 0, 0, 0, 0)) (hj : j ≤ 5) (hn : gZl X j = n) (hin : vp_in i n) (hq : i.toNatClampNeg = q) (hv : gZv X j q = x) (kk : gW X d k nx mc ms ls (.int x :: st) (Kd, I, L, R) Q) : gW X d k pc mc ms ls (.int i :: .ref (1000 + j) :: st) (Kd, I, L, R) Q := by
  subst hq
  subst hv
  subst hn
  exact w_sald h0 hj hin kk
theorem w_iastv {X : Nat × (Nat → Int32)} {d k pc nx mc ms : Nat} {ls : List (Option Value)} {st : List Value} {Kd : List (Nat × Nat)} {I : Nat → Nat → Int32} {L : Nat → Nat → Int64} {R : Nat → Nat → Option Nat} {Q : gQ} {a n j : Nat} {i : Int32} {x z : Int32} (h0 : gF k pc = some (64, nx, 0, 0, 0, 0)) (hk : Kd[a]? = some (12, n)) (hj : i.toNatClampNeg = j) (hin : vp_in i n) (hz : x = z) (kk : gW X d k nx mc ms ls st (Kd, gU I a j z, L, R) Q) : gW X d k pc mc ms ls (.int x :: .int i :: .ref a :: st) (Kd, I, L, R) Q := by
  subst hj
  subst hz
  exact w_iast h0 hk hin kk
theorem w_bastv {X : Nat × (Nat → Int32)} {d k pc nx mc ms : Nat} {ls : List (Option Value)} {st : List Value} {Kd : List (Nat × Nat)} {I : Nat → Nat → Int32} {L : Nat → Nat → Int64} {R : Nat → Nat → Option Nat} {Q : gQ} {a n j : Nat} {i : Int32} {x z : Int32} (h0 : gF k pc = some (66, nx, 0, 0, 0, 0)) (hk : Kd[a]? = some (14, n)) (hj : i.toNatClampNeg = j) (hin : vp_in i n) (hz : x.toInt8.toInt32 = z) (kk : gW X d k nx mc ms ls st (Kd, gU I a j z, L, R) Q) : gW X d k pc mc ms ls (.int x :: .int i :: .ref a :: st) (Kd, I, L, R) Q := by
  subst hj
  subst hz
  exact w_bast h0 hk hin kk
theorem w_hastv {X : Nat × (Nat → Int32)} {d k pc nx mc ms : Nat} {ls : List (Option Value)} {st : List Value} {Kd : List (Nat × Nat)} {I : Nat → Nat → Int32} {L : Nat → Nat → Int64} {R : Nat → Nat → Option Nat} {Q : gQ} {a n j : Nat} {i : Int32} {x z : Int32} (h0 : gF k pc = some (67, nx, 0, 0, 0, 0)) (hk : Kd[a]? = some (15, n)) (hj : i.toNatClampNeg = j) (hin : vp_in i n) (hz : x.toInt16.toInt32 = z) (kk : gW X d k nx mc ms ls st (Kd, gU I a j z, L, R) Q) : gW X d k pc mc ms ls (.int x :: .int i :: .ref a :: st) (Kd, I, L, R) Q := by
  subst hj
  subst hz
  exact w_hast h0 hk hin kk
theorem w_lastv {X : Nat × (Nat → Int32)} {d k pc nx mc ms : Nat} {ls : List (Option Value)} {st : List Value} {Kd : List (Nat × Nat)} {I : Nat → Nat → Int32} {L : Nat → Nat → Int64} {R : Nat → Nat → Option Nat} {Q : gQ} {a n j : Nat} {i : Int32} {x z : Int64} (h0 : gF k pc = some (65, nx, 0, 0, 0, 0)) (hk : Kd[a]? = some (13, n)) (hj : i.toNatClampNeg = j) (hin : vp_in i n) (hz : x = z) (kk : gW X d k nx mc ms ls st (Kd, I, gU L a j z, R) Q) : gW X d k pc mc ms ls (.long x :: .int i :: .ref a :: st) (Kd, I, L, R) Q := by
  subst hj
  subst hz
  exact w_last h0 hk hin kk
theorem w_if_eqZ {X : Nat × (Nat → Int32)} {d k pc nx mc ms : Nat} {ls : List (Option Value)} {st : List Value} {Kd : List (Nat × Nat)} {I : Nat → Nat → Int32} {L : Nat → Nat → Int64} {R : Nat → Nat → Option Nat} {Q : gQ} {x : Int32} {a : Int} {tg : Nat} (h0 : gF k pc = some (38, nx, 0, tg, 0, 0)) (hx : x.toInt = a) (kt : a = 0 → gW X d k tg mc ms ls (st) (Kd, I, L, R) Q) (kf : ¬ a = 0 → gW X d k nx mc ms ls (st) (Kd, I, L, R) Q) : gW X d k pc mc ms ls (.int x :: st) (Kd, I, L, R) Q := by
  subst hx
  have hz : (0 : Int32).toInt = 0 := rfl
  refine w_if_eq h0 (fun h => kt ?_) (fun h => kf ?_)
  · rw [h]; exact hz
  · exact fun q => h (Int32.toInt_inj.mp (q.trans hz.symm))
theorem w_icmp_eqZ {X : Nat × (Nat → Int32)} {d k pc nx mc ms : Nat} {ls : List (Option Value)} {st : List Value} {Kd : List (Nat × Nat)} {I : Nat → Nat → Int32} {L : Nat → Nat → Int64} {R : Nat → Nat → Option Nat} {Q : gQ} {x y : Int32} {a b : Int} {tg : Nat} (h0 : gF k pc = some (44, nx, 0, tg, 0, 0)) (hx : x.toInt = a) (hy : y.toInt = b) (kt : a = b → gW X d k tg mc ms ls (st) (Kd, I, L, R) Q) (kf : ¬ a = b → gW X d k nx mc ms ls (st) (Kd, I, L, R) Q) : gW X d k pc mc ms ls (.int y :: .int x :: st) (Kd, I, L, R) Q := by
  subst hx
  subst hy
  have hz : (0 : Int32).toInt = 0 := rfl
  refine w_icmp_eq h0 (fun h => kt ?_) (fun h => kf ?_)
  · rw [h]
  · exact fun q => h (Int32.toInt_inj.mp (q))
theorem w_if_neZ {X : Nat × (Nat → Int32)} {d k pc nx mc ms : Nat} {ls : List (Option Value)} {st : List Value} {Kd : List (Nat × Nat)} {I : Nat → Nat → Int32} {L : Nat → Nat → Int64} {R : Nat → Nat → Option Nat} {Q : gQ} {x : Int32} {a : Int} {tg : Nat} (h0 : gF k pc = some (39, nx, 0, tg, 0, 0)) (hx : x.toInt = a) (kt : ¬ a = 0 → gW X d k tg mc ms ls (st) (Kd, I, L, R) Q) (kf : a = 0 → gW X d k nx mc ms ls (st) (Kd, I, L, R) Q) : gW X d k pc mc ms ls (.int x :: st) (Kd, I, L, R) Q := by
  subst hx
  have hz : (0 : Int32).toInt = 0 := rfl
  refine w_if_ne h0 (fun h => kt ?_) (fun h => kf ?_)
  · exact fun q => h (Int32.toInt_inj.mp (q.trans hz.symm))
  · rw [h]; exact hz
theorem w_icmp_neZ {X : Nat × (Nat → Int32)} {d k pc nx mc ms : Nat} {ls : List (Option Value)} {st : List Value} {Kd : List (Nat × Nat)} {I : Nat → Nat → Int32} {L : Nat → Nat → Int64} {R : Nat → Nat → Option Nat} {Q : gQ} {x y : Int32} {a b : Int} {tg : Nat} (h0 : gF k pc = some (45, nx, 0, tg, 0, 0)) (hx : x.toInt = a) (hy : y.toInt = b) (kt : ¬ a = b → gW X d k tg mc ms ls (st) (Kd, I, L, R) Q) (kf : a = b → gW X d k nx mc ms ls (st) (Kd, I, L, R) Q) : gW X d k pc mc ms ls (.int y :: .int x :: st) (Kd, I, L, R) Q := by
  subst hx
  subst hy
  have hz : (0 : Int32).toInt = 0 := rfl
  refine w_icmp_ne h0 (fun h => kt ?_) (fun h => kf ?_)
  · exact fun q => h (Int32.toInt_inj.mp (q))
  · rw [h]
theorem w_if_ltZ {X : Nat × (Nat → Int32)} {d k pc nx mc ms : Nat} {ls : List (Option Value)} {st : List Value} {Kd : List (Nat × Nat)} {I : Nat → Nat → Int32} {L : Nat → Nat → Int64} {R : Nat → Nat → Option Nat} {Q : gQ} {x : Int32} {a : Int} {tg : Nat} (h0 : gF k pc = some (40, nx, 0, tg, 0, 0)) (hx : x.toInt = a) (kt : a < 0 → gW X d k tg mc ms ls (st) (Kd, I, L, R) Q) (kf : 0 ≤ a → gW X d k nx mc ms ls (st) (Kd, I, L, R) Q) : gW X d k pc mc ms ls (.int x :: st) (Kd, I, L, R) Q := by
  subst hx
  have hz : (0 : Int32).toInt = 0 := rfl
  refine w_if_lt h0 (fun h => kt ?_) (fun h => kf ?_)
  · rw [Int32.lt_iff_toInt_lt] at h; omega
  · rw [Int32.lt_iff_toInt_lt] at h; omega
theorem w_icmp_ltZ {X : Nat × (Nat → Int32)} {d k pc nx mc ms : Nat} {ls : List (Option Value)} {st : List Value} {Kd : List (Nat × Nat)} {I : Nat → Nat → Int32} {L : Nat → Nat → Int64} {R : Nat → Nat → Option Nat} {Q : gQ} {x y : Int32} {a b : Int} {tg : Nat} (h0 : gF k pc = some (46, nx, 0, tg, 0, 0)) (hx : x.toInt = a) (hy : y.toInt = b) (kt : a < b → gW X d k tg mc ms ls (st) (Kd, I, L, R) Q) (kf : b ≤ a → gW X d k nx mc ms ls (st) (Kd, I, L, R) Q) : gW X d k pc mc ms ls (.int y :: .int x :: st) (Kd, I, L, R) Q := by
  subst hx
  subst hy
  have hz : (0 : Int32).toInt = 0 := rfl
  refine w_icmp_lt h0 (fun h => kt ?_) (fun h => kf ?_)
  · rw [Int32.lt_iff_toInt_lt] at h; omega
  · rw [Int32.lt_iff_toInt_lt] at h; omega
theorem w_if_geZ {X : Nat × (Nat → Int32)} {d k pc nx mc ms : Nat} {ls : List (Option Value)} {st : List Value} {Kd : List (Nat × Nat)} {I : Nat → Nat → Int32} {L : Nat → Nat → Int64} {R : Nat → Nat → Option Nat} {Q : gQ} {x : Int32} {a : Int} {tg : Nat} (h0 : gF k pc = some (41, nx, 0, tg, 0, 0)) (hx : x.toInt = a) (kt : 0 ≤ a → gW X d k tg mc ms ls (st) (Kd, I, L, R) Q) (kf : a < 0 → gW X d k nx mc ms ls (st) (Kd, I, L, R) Q) : gW X d k pc mc ms ls (.int x :: st) (Kd, I, L, R) Q := by
  subst hx
  have hz : (0 : Int32).toInt = 0 := rfl
  refine w_if_ge h0 (fun h => kt ?_) (fun h => kf ?_)
  · rw [Int32.le_iff_toInt_le] at h; omega
  · rw [Int32.le_iff_toInt_le] at h; omega
theorem w_icmp_geZ {X : Nat × (Nat → Int32)} {d k pc nx mc ms : Nat} {ls : List (Option Value)} {st : List Value} {Kd : List (Nat × Nat)} {I : Nat → Nat → Int32} {L : Nat → Nat → Int64} {R : Nat → Nat → Option Nat} {Q : gQ} {x y : Int32} {a b : Int} {tg : Nat} (h0 : gF k pc = some (47, nx, 0, tg, 0, 0)) (hx : x.toInt = a) (hy : y.toInt = b) (kt : b ≤ a → gW X d k tg mc ms ls (st) (Kd, I, L, R) Q) (kf : a < b → gW X d k nx mc ms ls (st) (Kd, I, L, R) Q) : gW X d k pc mc ms ls (.int y :: .int x :: st) (Kd, I, L, R) Q := by
  subst hx
  subst hy
  have hz : (0 : Int32).toInt = 0 := rfl
  refine w_icmp_ge h0 (fun h => kt ?_) (fun h => kf ?_)
  · rw [Int32.le_iff_toInt_le] at h; omega
  · rw [Int32.le_iff_toInt_le] at h; omega
theorem w_if_gtZ {X : Nat × (Nat → Int32)} {d k pc nx mc ms : Nat} {ls : List (Option Value)} {st : List Value} {Kd : List (Nat × Nat)} {I : Nat → Nat → Int32} {L : Nat → Nat → Int64} {R : Nat → Nat → Option Nat} {Q : gQ} {x : Int32} {a : Int} {tg : Nat} (h0 : gF k pc = some (42, nx, 0, tg, 0, 0)) (hx : x.toInt = a) (kt : 0 < a → gW X d k tg mc ms ls (st) (Kd, I, L, R) Q) (kf : a ≤ 0 → gW X d k nx mc ms ls (st) (Kd, I, L, R) Q) : gW X d k pc mc ms ls (.int x :: st) (Kd, I, L, R) Q := by
  subst hx
  have hz : (0 : Int32).toInt = 0 := rfl
  refine w_if_gt h0 (fun h => kt ?_) (fun h => kf ?_)
  · rw [Int32.lt_iff_toInt_lt] at h; omega
  · rw [Int32.lt_iff_toInt_lt] at h; omega
theorem w_icmp_gtZ {X : Nat × (Nat → Int32)} {d k pc nx mc ms : Nat} {ls : List (Option Value)} {st : List Value} {Kd : List (Nat × Nat)} {I : Nat → Nat → Int32} {L : Nat → Nat → Int64} {R : Nat → Nat → Option Nat} {Q : gQ} {x y : Int32} {a b : Int} {tg : Nat} (h0 : gF k pc = some (48, nx, 0, tg, 0, 0)) (hx : x.toInt = a) (hy : y.toInt = b) (kt : b < a → gW X d k tg mc ms ls (st) (Kd, I, L, R) Q) (kf : a ≤ b → gW X d k nx mc ms ls (st) (Kd, I, L, R) Q) : gW X d k pc mc ms ls (.int y :: .int x :: st) (Kd, I, L, R) Q := by
  subst hx
  subst hy
  have hz : (0 : Int32).toInt = 0 := rfl
  refine w_icmp_gt h0 (fun h => kt ?_) (fun h => kf ?_)
  · rw [Int32.lt_iff_toInt_lt] at h; omega
  · rw [Int32.lt_iff_toInt_lt] at h; omega
theorem w_if_leZ {X : Nat × (Nat → Int32)} {d k pc nx mc ms : Nat} {ls : List (Option Value)} {st : List Value} {Kd : List (Nat × Nat)} {I : Nat → Nat → Int32} {L : Nat → Nat → Int64} {R : Nat → Nat → Option Nat} {Q : gQ} {x : Int32} {a : Int} {tg : Nat} (h0 : gF k pc = some (43, nx, 0, tg, 0, 0)) (hx : x.toInt = a) (kt : a ≤ 0 → gW X d k tg mc ms ls (st) (Kd, I, L, R) Q) (kf : 0 < a → gW X d k nx mc ms ls (st) (Kd, I, L, R) Q) : gW X d k pc mc ms ls (.int x :: st) (Kd, I, L, R) Q := by
  subst hx
  have hz : (0 : Int32).toInt = 0 := rfl
  refine w_if_le h0 (fun h => kt ?_) (fun h => kf ?_)
  · rw [Int32.le_iff_toInt_le] at h; omega
  · rw [Int32.le_iff_toInt_le] at h; omega
theorem w_icmp_leZ {X : Nat × (Nat → Int32)} {d k pc nx mc ms : Nat} {ls : List (Option Value)} {st : List Value} {Kd : List (Nat × Nat)} {I : Nat → Nat → Int32} {L : Nat → Nat → Int64} {R : Nat → Nat → Option Nat} {Q : gQ} {x y : Int32} {a b : Int} {tg : Nat} (h0 : gF k pc = some (49, nx, 0, tg, 0, 0)) (hx : x.toInt = a) (hy : y.toInt = b) (kt : a ≤ b → gW X d k tg mc ms ls (st) (Kd, I, L, R) Q) (kf : b < a → gW X d k nx mc ms ls (st) (Kd, I, L, R) Q) : gW X d k pc mc ms ls (.int y :: .int x :: st) (Kd, I, L, R) Q := by
  subst hx
  subst hy
  have hz : (0 : Int32).toInt = 0 := rfl
  refine w_icmp_le h0 (fun h => kt ?_) (fun h => kf ?_)
  · rw [Int32.le_iff_toInt_le] at h; omega
  · rw [Int32.le_iff_toInt_le] at h; omega
theorem w_callVi {X : Nat × (Nat → Int32)} {d k pc nx mc ms : Nat} {ls : List (Option Value)} {st : List Value} {Kd : List (Nat × Nat)} {I : Nat → Nat → Int32} {L : Nat → Nat → Int64} {R : Nat → Nat → Option Nat} {Q : gQ} {y n b n0 : Nat} {As : List Value} {le : List (Option Value)} (h0 : gF k pc = some (73, nx, y, n, 0, 0)) (hn : As.length = n) (hk : Kd[b]? = some (gOwn y, n0)) (hc : (st.map fun v => v.category).sum ≤ 8) (hl : (gLay (.ref b :: As)).length ≤ gMx y) (he : gEn y (.ref b :: As) = le) (kk : gW X d y 0 0 0 le [] (Kd, I, L, R) (fun r σ => gW X (d + 1) k nx mc ms ls (r.toList ++ st) σ Q)) : gW X (d + 1) k pc mc ms ls (As.reverse ++ (.ref b :: st)) (Kd, I, L, R) Q := by
  subst he
  exact w_callV _ h0 hn hk hc hl kk (fun r K2 I2 L2 R2 hr => hr)
theorem w_callSi {X : Nat × (Nat → Int32)} {d k pc nx mc ms : Nat} {ls : List (Option Value)} {st : List Value} {Kd : List (Nat × Nat)} {I : Nat → Nat → Int32} {L : Nat → Nat → Int64} {R : Nat → Nat → Option Nat} {Q : gQ} {y n : Nat} {As : List Value} {le : List (Option Value)} (h0 : gF k pc = some (74, nx, y, n, 0, 0)) (hn : As.length = n) (hc : (st.map fun v => v.category).sum ≤ 8) (hl : (gLay As).length ≤ gMx y) (he : gEn y As = le) (kk : gW X d y 0 0 0 le [] (Kd, I, L, R) (fun r σ => gW X (d + 1) k nx mc ms ls (r.toList ++ st) σ Q)) : gW X (d + 1) k pc mc ms ls (As.reverse ++ st) (Kd, I, L, R) Q := by
  subst he
  exact w_callS _ h0 hn hc hl kk (fun r K2 I2 L2 R2 hr => hr)
theorem w_topv {X : Nat × (Nat → Int32)} {d k pc mc ms : Nat} {ls : List (Option Value)} {st : List Value} {Kd : List (Nat × Nat)} {I : Nat → Nat → Int32} {L : Nat → Nat → Int64} {R : Nat → Nat → Option Nat} {Q : gQ} {x z : Int32} (hv : x = z) (kk : gW X d k pc mc ms ls (.int z :: st) (Kd, I, L, R) Q) : gW X d k pc mc ms ls (.int x :: st) (Kd, I, L, R) Q := by
  subst hv
  exact kk
theorem w_toplv {X : Nat × (Nat → Int32)} {d k pc mc ms : Nat} {ls : List (Option Value)} {st : List Value} {Kd : List (Nat × Nat)} {I : Nat → Nat → Int32} {L : Nat → Nat → Int64} {R : Nat → Nat → Option Nat} {Q : gQ} {x z : Int64} (hv : x = z) (kk : gW X d k pc mc ms ls (.long z :: st) (Kd, I, L, R) Q) : gW X d k pc mc ms ls (.long x :: st) (Kd, I, L, R) Q := by
  subst hv
  exact kk
theorem w_swI {X : Nat × (Nat → Int32)} {d k pc nx mc ms : Nat} {ls : List (Option Value)} {st : List Value} {Kd : List (Nat × Nat)} {I : Nat → Nat → Int32} {L : Nat → Nat → Int64} {R : Nat → Nat → Option Nat} {Q : gQ} {x : Int32} {tg : Nat} (h0 : gF k pc = some (82, nx, 0, 0, 0, 0)) (hq : ∃ q ∈ gSw k pc, x = q.1) (hu : ∀ q ∈ gSw k pc, x = q.1 → q.2 = tg) (kk : gW X d k tg mc ms ls (st) (Kd, I, L, R) Q) : gW X d k pc mc ms ls (.int x :: st) (Kd, I, L, R) Q := by
  refine w_sw h0 (fun q h1 h2 => ?_) (fun h => ?_)
  · rw [hu q h1 h2]
    exact kk
  · obtain ⟨q, h1, h2⟩ := hq
    exact absurd h2 (h q h1)
theorem w_swO {X : Nat × (Nat → Int32)} {d k pc nx mc ms : Nat} {ls : List (Option Value)} {st : List Value} {Kd : List (Nat × Nat)} {I : Nat → Nat → Int32} {L : Nat → Nat → Int64} {R : Nat → Nat → Option Nat} {Q : gQ} {x : Int32} (h0 : gF k pc = some (82, nx, 0, 0, 0, 0)) (hq : ∀ q ∈ gSw k pc, ¬ x = q.1) (kk : gW X d k nx mc ms ls (st) (Kd, I, L, R) Q) : gW X d k pc mc ms ls (.int x :: st) (Kd, I, L, R) Q := w_sw h0 (fun q h1 h2 => absurd h2 (hq q h1)) (fun _ => kk)
theorem i_is {a z : Int32} {n : Int} (h : a.toInt = n) (hz : z.toInt = n) : a = z := Int32.toInt_inj.mp (h.trans hz.symm)
