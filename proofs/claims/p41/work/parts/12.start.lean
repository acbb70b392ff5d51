/-! THE CLAIM OUT OF ONE WALK OF THE LAW'S BODY. Your part is whole_start (and what it stands on); all else here is the same for every law, but numbers. -/
noncomputable def R_law : String := "OneEarOfTwoLaw"
def lw_P (b : Addr) (xs : List Int32) (args : Array Value) (s : State) : Prop := args = #[.ref b] ∧ s.IntsAt b xs ∧ xs.length ≤ 3072 ∧ (Jvm.Cond.and given_1 narrow_1).before args s = true
def lw_Q (_ : Array Value) (s : State) (o : Outcome) (t : State) : Prop := o = .returned (some (.int 1)) ∧ Framed s o t [] 600000 7302250
def lw_Z (below : List Frame) (a : Array Value) (s : State) : State → Prop := fun t => ∃ o, t.status = .running ∧ Ended t below o ∧ lw_Q a s o t
/-- the law's own end, with 1 on the stack, nothing written that was there before, its room as the claim has it -/
theorem lw_ret {p : Program} {l : Launch} {e : Env} {s : State} {m : MethodId} {below : List Frame} {meth : Method} {c : Code} {b : Nat} (hx : p.tables.exec = Jvm.exec) (hb : c.code = code) (hr : meth.sig.returnType = ret) (hlocks : meth.locks = false) {pc : Nat} {H : Heap} {ls : Array Slot} (hdg : decode code pc = .ok (.ireturn, 1)) : W p l e room_1 s m #[Value.ref b] below meth c H [] 600000 7302250 (lw_Z below #[Value.ref b] s) (F0 m pc ls [.int 1]) := by
  intro T hT X
  obtain ⟨fs, hret, hrun, hended, hW, hframe⟩ := X.leave (v := some (.int 1)) (hlocks := hlocks) (fun h => by rw [hr] at h; cases h)
  have hmeth' : T.vm.method? m = some meth := X.method'
  refine ⟨T.setFrames fs, ?_, .returned (some (.int 1)), hrun, hended, rfl, ⟨_, rfl⟩, hW, hframe⟩
  jvm_step X.here [X.here.top, hx, hb, hdg, hmeth', hr, ret, narrow_b1]
  (try refine ⟨rfl, ?_⟩); (try refine ⟨rfl, ?_⟩)
  first | (intro acts; rw [hret _ acts rfl rfl rfl]) | rw [hret _ _ rfl rfl rfl]
  exact Steps.refl _
/-- what holds at the law's entry: the machine, the code, the tables' words (any of lw_tbl by 'hts w (by decide +kernel)'), the script of L ints xs at the cell b, what the Statement gives of the start (any of its parts by flat_of_before) -/
def lw_At (p : Program) (s : State) (m : MethodId) (meth : Method) (c : Code) (b L : Nat) (xs : Nat → Int32) : Prop :=
  p.tables.exec = Jvm.exec ∧ c.code = code ∧ meth.sig.returnType = ret ∧ c.maxLocals = 4 ∧ s.vm.findClass R_law = some m.cls ∧ (∀ w ∈ lw_tbl, w.before #[Value.ref b] s = true) ∧ va_X b L xs s s.heap ∧ b < s.heap.size ∧ meth.locks = false ∧ (Jvm.Cond.and given_1 narrow_1).before #[Value.ref b] s = true
-- ===== YOUR PART BEGINS =====
noncomputable def gTm (j : Nat) : Term := .static (gZn j).1 (gZn j).2 "[I"
theorem gZf1 : ∀ j, j < 6 → 1 ≤ j → Cond.arrayOf (gTm j) .int ∈ flatC (Jvm.Cond.and given_1 narrow_1) ∧ Cond.eq (.length (gTm j)) (.int (Int32.ofNat (gZl (0, fun _ => 0) j))) ∈ flatC (Jvm.Cond.and given_1 narrow_1) := by decide +kernel
theorem gZf2 : ∀ j, j < 6 → 1 ≤ j → ∀ i, i < gZl (0, fun _ => 0) j → Cond.eq (.elem (gTm j) (.int (Int32.ofNat i))) (.int ((gZt j).getD i 0)) ∈ flatC (Jvm.Cond.and given_1 narrow_1) := by decide +kernel
theorem gZl_X {X : Nat × (Nat → Int32)} {j : Nat} (h : 1 ≤ j) : gZl X j = gZl (0, fun _ => 0) j := by
  match j, h with
  | 1, _ => rfl
  | 2, _ => rfl
  | 3, _ => rfl
  | 4, _ => rfl
  | j + 5, _ => rfl
theorem gZl_le : ∀ j, j < 6 → 1 ≤ j → gZl (0, fun _ => 0) j < 2 ^ 31 := by decide +kernel
theorem gZini : ∀ j, j < 6 → 1 ≤ j → (∃ c, c < 12 ∧ (gZn j).1 = (gCl c).1) := by
  intro j h1 h2
  match j, h1, h2 with
  | 1, _, _ => exact ⟨9, by decide, rfl⟩
  | 2, _, _ => exact ⟨9, by decide, rfl⟩
  | 3, _, _ => exact ⟨9, by decide, rfl⟩
  | 4, _, _ => exact ⟨0, by decide, rfl⟩
  | 5, _, _ => exact ⟨0, by decide, rfl⟩
theorem gZlay : ∀ j, j < 6 → 1 ≤ j → Cond.laysStatic (gZn j).1 (gZn j).2 "[I" ∈ lw_tbl := by
  intro j h1 h2
  match j, h1, h2 with
  | 1, _, _ => exact gZl1
  | 2, _, _ => exact gZl2
  | 3, _, _ => exact gZl3
  | 4, _, _ => exact gZl4
  | 5, _, _ => exact gZl5
theorem gArr {args : Array Value} {s : State} {ty : FieldType} (hp : ∀ C, ty ≠ .object C) (h : (Cond.arrayClass ty).before args s = true) : ∃ cA : ClassId, ArrOfT s cA ty ∧ va_RA s cA ty := by
  obtain ⟨cA, kA, comp, h1, h2, h3⟩ := Cond.arrayClass_spec h
  refine ⟨cA, fun n z => ⟨fun k h => (by cases h), kA, h2, comp, h3⟩, ?_⟩
  cases ty with
  | object C => exact absurd rfl (hp C)
  | _ => exact h1
theorem gArrO {args : Array Value} {s : State} {C : String} (h : (Cond.arrayOver (.object C)).before args s = true) : ∃ cA : ClassId, ArrOfT s cA (.object C) ∧ va_RA s cA (.object C) := by
  obtain ⟨comp, cA, kA, h1, -, h3, h4, h5⟩ := Cond.arrayOver_spec h
  exact ⟨cA, fun n z => ⟨fun k h => (by cases h), kA, h3, comp, h4⟩, kA, comp, h3, h4, h1, h5⟩
noncomputable def gM0 : gM := ([], fun _ _ => 0, fun _ _ => 0, fun _ _ => none)
set_option maxHeartbeats 4000000 in
/-- the law's walk out of a word of the small machine -/
theorem gStart {p : Program} {e : Env} {s : State} {m : MethodId} {below : List Frame} {meth : Method} {c : Code} (l : Launch) {b L : Nat} {xs : Nat → Int32} (hL : L ≤ 3072) (hpure : ∀ X : Nat × (Nat → Int32), X.1 ≤ 3072 → gW X 300 257 0 87 3622 (gEn 257 [.ref 1000]) [] gM0 (fun r _ => r = some (.int 1))) (C0 : lw_At p s m meth c b L xs) : W p l e room_1 s m #[Value.ref b] below meth c s.heap [] 0 0 (lw_Z below #[Value.ref b] s) (entryFrame m ([Value.ref b] : List Value).toArray 4) := by
  obtain ⟨hx, hb, hr, hml, hown, hts, hX, hbl, hlocks, hgv⟩ := id C0
  have hgw : ∀ w ∈ gGW, w.before #[Value.ref b] s = true := fun w hw => hts w (List.mem_filter.mp hw).1
  have hfl := flat_of_before _ hgv
  have hAn : ∀ a : Nat, a < s.heap.size → ¬ gA s.heap.size a := fun a h q => absurd (show s.heap.size ≤ a from q) (by omega)
  -- the classes
  have hk : ∀ c : Nat, ∃ x : ClassId × (Nat → Nat), c < 12 → u_Kn s (gCl c).1 (gCl c).2.1 (gCl c).2.2 x.1 x.2 := by
    intro c
    by_cases h : c < 12
    · obtain ⟨x, y, hxy⟩ := u_known (C := (gCl c).1) (T := (gCl c).2.1) (N := (gCl c).2.2) (n := (gCl c).2.2) hgw (gLay_gw h) (hts _ (gInst_cl c h))
      exact ⟨(x, y), fun _ => hxy⟩
    · exact ⟨(0, fun _ => 0), fun q => absurd q h⟩
  obtain ⟨f, hf⟩ := Classical.axiomOfChoice hk
  -- the rows' classes
  obtain ⟨c12, k12⟩ := gArr (fun C h => by cases h) (hts _ gAr_int)
  obtain ⟨c13, k13⟩ := gArr (fun C h => by cases h) (hts _ gAr_long)
  obtain ⟨c14, k14⟩ := gArr (fun C h => by cases h) (hts _ gAr_byte)
  obtain ⟨c15, k15⟩ := gArr (fun C h => by cases h) (hts _ gAr_short)
  obtain ⟨c16, k16⟩ := gArrO (hts _ gAr_Shelf)
  obtain ⟨ca, e12, e13, e14, e15, e16⟩ : ∃ ca : Nat → ClassId, ca 12 = c12 ∧ ca 13 = c13 ∧ ca 14 = c14 ∧ ca 15 = c15 ∧ ca 16 = c16 :=
    ⟨fun t => if t = 12 then c12 else if t = 13 then c13 else if t = 14 then c14 else if t = 15 then c15 else c16, rfl, rfl, rfl, rfl, rfl⟩
  have hK : va_K (fun c => (f c).1, fun c => (f c).2) vwCl (gTys ca) s := by
    refine ⟨fun c q hq => ?_, fun k q hq => ?_⟩
    · have h12 : c < 12 := (List.getElem?_eq_some_iff.mp hq).1
      have := Option.some.inj (hq.symm.trans (gCl_at c h12))
      subst this
      exact hf c h12
    · unfold gTys at hq
      rw [e12, e13, e14, e15, e16] at hq
      match k, hq with
      | 0, hq => cases hq; exact k12
      | 1, hq => cases hq; exact k13
      | 2, hq => cases hq; exact k14
      | 3, hq => cases hq; exact k15
      | 4, hq => cases hq; exact k16
      | k + 5, hq => cases hq
  -- the static rows
  have ht : ∀ j : Nat, ∃ t : Nat, j < 6 → 1 ≤ j → (gTm j).eval #[Value.ref b] s none [] s = some (.ref t) ∧ va_T .int t (gZl (L, xs) j) (fun i => .int (gZv (L, xs) j i)) (gA s.heap.size) s s.heap := by
    intro j
    by_cases h : j < 6 ∧ 1 ≤ j
    · obtain ⟨h1, h2⟩ := h
      obtain ⟨q1, q2⟩ := gZf1 j h1 h2
      obtain ⟨t, g1, g2⟩ := va_Tof (f := fun i => .int ((gZt j).getD i 0)) (gZl_le j h1 h2) (hfl _ q1) (va_eqt (hfl _ q2)) (fun i hi => va_eqt (hfl _ (gZf2 j h1 h2 i hi))) hAn
      refine ⟨t, fun _ _ => ⟨g1, ?_⟩⟩
      rw [gZl_X h2]
      match j, h2, g2 with
      | j + 1, _, g2 => exact g2
    · exact ⟨0, fun q1 q2 => absurd ⟨q1, q2⟩ h⟩
  obtain ⟨g, hg⟩ := Classical.axiomOfChoice ht
  have hSt : gSt3 (L, xs) s.heap.size (fun j => if j = 0 then b else g j) s s.heap := by
    refine ⟨fun w hw => ?_, va_AO.of (hts _ gAr_Shelf), fun j h1 h2 => ?_, fun j h1 => ?_⟩
    · rcases List.mem_append.mp hw with hw | hw
      · obtain ⟨q, hq, rfl⟩ := List.mem_map.mp hw
        exact va_Nw.of rfl (hts _ (List.mem_of_getElem? (gFN_ok q hq)))
      · obtain ⟨q, hq, rfl⟩ := List.mem_map.mp hw
        exact va_Nw.of rfl (hts _ (List.mem_of_getElem? (gCN_ok q hq).1))
    · dsimp only
      rw [if_neg (by omega)]
      obtain ⟨c', hc', he⟩ := gZini j (by omega) h1
      refine va_Zof (hts _ (gZlay j (by omega) h1)) ?_ (hg j (by omega) h1).1 hAn
      rw [he]
      exact hts _ (gIni_cl c' hc')
    · dsimp only
      by_cases h0 : j = 0
      · subst h0
        rw [if_pos rfl]
        obtain ⟨scr, a1, a2, a3, a4, a5⟩ := hX
        exact ⟨scr, a1, a2, a3, Nat.le_of_eq a4.symm, by rw [a4]; rfl, a5, hAn b hbl⟩
      · rw [if_neg h0]
        exact (hg j (by omega) (by omega)).2
  have hl := lv_entry ([.ref b]) (n := 4) (Nat.le_of_ble_eq_true rfl)
  rw [lg_entry_eq]
  refine gRun (hpure (L, xs) hL) p e room_1 s m _ below meth c s.heap [] 0 0 s.heap.size (fun j => if j = 0 then b else g j) ca (fun c => (f c).1, fun c => (f c).2) _ _ ⟨hx, hb, hml, hown, hgw, hK, hSt, Nat.le_of_ble_eq_true rfl, Nat.le_of_ble_eq_true rfl, fun h => absurd h (by decide +kernel), Nat.le_refl _⟩ ⟨Nat.zero_le _, fun k q h => by simp [gWo, gM0] at h⟩ rfl va_S.rf (Nat.le_of_ble_eq_true rfl) (Nat.le_of_ble_eq_true rfl) (lv_less hl (gEn_args _ 257 [.ref 1000])) ?_
  intro r σ' H' locs' lsM' pc' hq hRep hsz hS hRo
  subst hq
  refine va_forget (fun q hq => hS.2.2 q hq) ?_
  refine W.widen (k := 600000) (n := 7302250) (Nat.le_of_ble_eq_true rfl) (Nat.le_of_ble_eq_true rfl) ?_
  exact lw_ret hx hb hr hlocks hRo.2
