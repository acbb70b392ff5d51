/-! what the small machine's words say of the machine -/
noncomputable def gAd (base : Nat) (sa : Nat → Nat) (a : Nat) : Nat := if a < 1000 then base + a else sa (a - 1000)
noncomputable def gV (ad : Nat → Nat) (v : Value) : Value := match v with
  | .ref a => .ref (ad a)
  | w => w
theorem gV_cat (ad : Nat → Nat) (v : Value) : (gV ad v).category = v.category := by cases v <;> rfl
theorem gV_cats (ad : Nat → Nat) (st : List Value) : ((st.map (gV ad)).map fun v => v.category).sum = (st.map fun v => v.category).sum := by
  rw [List.map_map]
  congr 1
  exact List.map_congr_left fun v _ => gV_cat ad v
noncomputable def gFv (ad : Nat → Nat) (σ : gM) (a t f : Nat) : Value := match gTy t f with
  | .int => .int (σ.2.1 a f)
  | .boolean => .int (σ.2.1 a f)
  | .long => .long (σ.2.2.1 a f)
  | _ => va_rf ((σ.2.2.2 a f).map ad)
noncomputable def gEt (ad : Nat → Nat) (ca : Nat → ClassId) (σ : gM) (a : Nat) (q : Nat × Nat) : va_E :=
  if q.1 < 12 then .inr (q.1, (List.range (gNf q.1)).map (gFv ad σ a q.1))
  else if q.1 = 13 then .inl (ca 13, q.2, .inr (.inl (σ.2.2.1 a)))
  else if q.1 = 16 then .inl (ca 16, q.2, .inr (.inr (.inr (.inr (fun j => (σ.2.2.2 a j).map ad)))))
  else .inl (ca q.1, q.2, .inl (σ.2.1 a))
noncomputable def gWo (base : Nat) (ad : Nat → Nat) (ca : Nat → ClassId) (σ : gM) : va_W := (List.range σ.1.length).map (fun a => (base + a, gEt ad ca σ a (σ.1.getD a (0, 0))))
theorem gWo_at {base : Nat} {ad : Nat → Nat} {ca : Nat → ClassId} {σ : gM} {a : Nat} {q : Nat × Nat} (h : σ.1[a]? = some q) : (gWo base ad ca σ)[a]? = some (base + a, gEt ad ca σ a q) := by
  have hl : a < σ.1.length := (List.getElem?_eq_some_iff.mp h).1
  unfold gWo
  rw [List.getElem?_map, List.getElem?_range hl]
  simp [List.getD, h]
theorem gWo_len {base : Nat} {ad : Nat → Nat} {ca : Nat → ClassId} {σ : gM} : (gWo base ad ca σ).length = σ.1.length := by simp [gWo]
theorem gWo_out {base : Nat} {ad : Nat → Nat} {ca : Nat → ClassId} {σ : gM} {a : Nat} {p : Nat × va_E} (h : (gWo base ad ca σ)[a]? = some p) : ∃ q, σ.1[a]? = some q ∧ p = (base + a, gEt ad ca σ a q) := by
  have hl : a < σ.1.length := by
    have := (List.getElem?_eq_some_iff.mp h).1
    rwa [gWo_len] at this
  refine ⟨σ.1[a], List.getElem?_eq_getElem hl, ?_⟩
  have := gWo_at (base := base) (ad := ad) (ca := ca) (List.getElem?_eq_getElem hl)
  rw [this] at h
  exact (Option.some.inj h).symm
theorem gWo_set {base : Nat} {ad : Nat → Nat} {ca : Nat → ClassId} {σ σ' : gM} (h1 : σ'.1 = σ.1) {a : Nat} {q : Nat × Nat} (ha : σ.1[a]? = some q) {E : va_E} (hE : E = gEt ad ca σ' a q) (ho : ∀ (b : Nat) (q' : Nat × Nat), b ≠ a → gEt ad ca σ' b q' = gEt ad ca σ b q') : (gWo base ad ca σ).set a (base + a, E) = gWo base ad ca σ' := by
  subst hE
  apply List.ext_getElem?
  intro j
  have hl : a < σ.1.length := (List.getElem?_eq_some_iff.mp ha).1
  by_cases hj : j = a
  · subst hj
    rw [List.getElem?_set_self (by rw [gWo_len]; exact hl), gWo_at (q := q) (by rw [h1]; exact ha)]
  · rw [List.getElem?_set_ne (fun h => hj h.symm)]
    by_cases hjl : j < σ.1.length
    · rw [gWo_at (List.getElem?_eq_getElem hjl), gWo_at (σ := σ') (q := σ.1[j]) (by rw [h1]; exact List.getElem?_eq_getElem hjl), ho j _ hj]
    · rw [List.getElem?_eq_none (by rw [gWo_len]; omega), List.getElem?_eq_none (by rw [gWo_len, h1]; omega)]
theorem gWo_push {base : Nat} {ad : Nat → Nat} {ca : Nat → ClassId} {σ σ' : gM} {q : Nat × Nat} (h1 : σ'.1 = σ.1 ++ [q]) {E : va_E} (hE : E = gEt ad ca σ' σ.1.length q) (ho : ∀ (b : Nat) (q' : Nat × Nat), b < σ.1.length → gEt ad ca σ' b q' = gEt ad ca σ b q') : gWo base ad ca σ ++ [(base + σ.1.length, E)] = gWo base ad ca σ' := by
  subst hE
  apply List.ext_getElem?
  intro j
  by_cases hj : j < σ.1.length
  · rw [List.getElem?_append_left (by rw [gWo_len]; exact hj), gWo_at (List.getElem?_eq_getElem hj), gWo_at (σ := σ') (q := σ.1[j]) (by rw [h1, List.getElem?_append_left hj]; exact List.getElem?_eq_getElem hj), ho j _ hj]
  · rw [List.getElem?_append_right (by rw [gWo_len]; omega), gWo_len]
    by_cases hj2 : j = σ.1.length
    · subst hj2
      rw [gWo_at (σ := σ') (q := q) (by rw [h1]; simp)]
      simp
    · rw [List.getElem?_eq_none (by simp; omega), List.getElem?_eq_none (by rw [gWo_len, h1]; simp; omega)]
/-- the cells' kinds, as the tables have them -/
noncomputable def gTys (ca : Nat → ClassId) : List (ClassId × FieldType) := [(ca 12, .int), (ca 13, .long), (ca 14, .byte), (ca 15, .short), (ca 16, .object RX7)]
def gA (base : Nat) : Nat → Prop := fun q => base ≤ q
theorem gWo_D {base : Nat} {ad : Nat → Nat} {ca : Nat → ClassId} {σ : gM} : va_D (gA base) (gWo base ad ca σ) := by
  refine ⟨fun i j p q hi hj h => ?_, fun k q hk => ?_⟩
  · obtain ⟨_, -, rfl⟩ := gWo_out hi
    obtain ⟨_, -, rfl⟩ := gWo_out hj
    have h : base + i = base + j := h
    omega
  · obtain ⟨_, -, rfl⟩ := gWo_out hk
    exact Nat.le_add_right _ _
def gRep (base : Nat) (sa : Nat → Nat) (ca : Nat → ClassId) (D : va_G) (σ : gM) (H : Heap) : Prop :=
  σ.1.length ≤ 900 ∧ va_P D vwCl (gWo base (gAd base sa) ca σ) H
/-- the static rows and the words of nest mates: what a state has of them -/
noncomputable def gNW : List Jvm.Cond := (gFN.map fun q => Cond.fieldLinkNest (gCn q.1) q.2.1 (gCl (q.2.2.1 / 100)).1 ((gCl (q.2.2.1 / 100)).2.1 (q.2.2.1 % 100)).2.1 ((gCl (q.2.2.1 / 100)).2.1 (q.2.2.1 % 100)).2.2.1 RX10) ++ (gCN.map fun q => Cond.methodLinkNest (gCn q.1) q.2.1 (gY q.2.2.1) RX10)
def gSt3 (X : Nat × (Nat → Int32)) (base : Nat) (sa : Nat → Nat) (U : State) (H : Heap) : Prop :=
  (∀ w ∈ gNW, va_Nw w U) ∧ va_AO RX7 U ∧ (∀ j, 1 ≤ j → j ≤ 5 → va_Z (gZn j).1 (gZn j).2 "[I" (.ref (sa j)) (gA base) U H) ∧ ∀ j, j ≤ 5 → va_T .int (sa j) (gZl X j) (fun i => .int (gZv X j i)) (gA base) U H
theorem gSt3.kept {X : Nat × (Nat → Int32)} {base : Nat} {sa : Nat → Nat} {U : State} {H H1 : Heap} (h : gSt3 X base sa U H) (hq : ∀ a : Nat, a < H.size → ¬ gA base a → H1[a]? = H[a]?) : gSt3 X base sa U H1 :=
  ⟨h.1, h.2.1, fun j h1 h2 => (h.2.2.1 j h1 h2).kept hq, fun j h1 => (h.2.2.2 j h1).kept hq⟩
theorem gSt3.moved {X : Nat × (Nat → Int32)} {base : Nat} {sa : Nat → Nat} {u U : State} {H : Heap} (hW : u.WarmedH U.vm) (h : gSt3 X base sa u H) : gSt3 X base sa U H := by
  refine ⟨fun w hw => ?_, va_AO.moved hW.alike h.2.1, fun j h1 h2 => (h.2.2.1 j h1 h2).moved hW.alike, fun j h1 => (h.2.2.2 j h1).moved hW.alike⟩
  have h0 := h.1 w hw
  rcases List.mem_append.mp hw with hw | hw
  · obtain ⟨q, -, rfl⟩ := List.mem_map.mp hw
    exact va_Nw.warmF hW h0
  · obtain ⟨q, -, rfl⟩ := List.mem_map.mp hw
    exact va_Nw.warmM hW h0
theorem gSt3.same {X : Nat × (Nat → Int32)} {base : Nat} {sa : Nat → Nat} {u U : State} {H : Heap} (hv : u.vm = U.vm) (h : gSt3 X base sa u H) : gSt3 X base sa U H := by
  have hal : u.vm.Alike U.vm := by rw [hv]; exact Vm.Alike.refl _
  refine ⟨fun w hw => ?_, va_AO.moved hal h.2.1, fun j h1 h2 => (h.2.2.1 j h1 h2).moved hal, fun j h1 => (h.2.2.2 j h1).moved hal⟩
  have h0 := h.1 w hw
  rcases List.mem_append.mp hw with hw | hw
  · obtain ⟨q, -, rfl⟩ := List.mem_map.mp hw
    exact va_Nw.same rfl hv h0
  · obtain ⟨q, -, rfl⟩ := List.mem_map.mp hw
    exact va_Nw.same rfl hv h0
noncomputable def gGW : List Jvm.Cond := lw_tbl.filter goodWord
/-- where a method stands: the machine, its code, the words, the tables, the room -/
def gCx (X : Nat × (Nat → Int32)) (p : Program) (R : Room) (s : State) (m : MethodId) (args : Array Value) (meth : Method) (c : Code) (d k base : Nat) (sa : Nat → Nat) (ca : Nat → ClassId) (D : va_G) : Prop :=
  p.tables.exec = Jvm.exec ∧ c.code = gCode k ∧ c.maxLocals = gMx k ∧ s.vm.findClass (gCn (gOwn k)) = some m.cls ∧ (∀ w ∈ gGW, w.before args s = true) ∧ va_K D vwCl (gTys ca) s ∧ gSt3 X base sa s s.heap ∧ d ≤ R.frames ∧ 64 * d ≤ R.locals ∧ ((gY k).name = "<init>" → meth.name = "<init>") ∧ base ≤ s.heap.size
noncomputable def gLof (ad : Nat → Nat) (ls : List (Option Value)) : List (Nat × Value) := (List.range ls.length).filterMap fun j => match ls[j]? with
  | some (some v) => some (j, gV ad v)
  | _ => none
theorem gLof_mem {ad : Nat → Nat} {ls : List (Option Value)} {q : Nat × Value} : q ∈ gLof ad ls ↔ ∃ v, ls[q.1]? = some (some v) ∧ q.2 = gV ad v := by
  unfold gLof
  rw [List.mem_filterMap]
  constructor
  · rintro ⟨j, -, hj⟩
    split at hj
    · next v hv =>
      cases hj
      exact ⟨v, hv, rfl⟩
    · cases hj
  · rintro ⟨v, hv, hq⟩
    refine ⟨q.1, List.mem_range.mpr (List.getElem?_eq_some_iff.mp hv).1, ?_⟩
    rw [hv]
    obtain ⟨a, b⟩ := q
    cases hq
    rfl
theorem gLof_at {ad : Nat → Nat} {ls : List (Option Value)} {lsM : Array Slot} {n i : Nat} {v : Value} (h : lv_has lsM n (gLof ad ls)) (hi : ls[i]? = some (some v)) : lsM[i]? = some (.val (gV ad v)) := h.2.2 (i, gV ad v) (gLof_mem.mpr ⟨v, hi, rfl⟩)
theorem lv_less {lsM : Array Slot} {n : Nat} {l l' : List (Nat × Value)} (h : lv_has lsM n l) (hs : ∀ q ∈ l', q ∈ l) : lv_has lsM n l' := ⟨h.1, h.2.1, fun q hq => h.2.2 q (hs q hq)⟩
theorem gTwo_cat (v : Value) : gTwo v = true ↔ v.category = 2 := by cases v <;> simp [gTwo, Value.category]
theorem gTwo_V (ad : Nat → Nat) (v : Value) : gTwo (gV ad v) = gTwo v := by cases v <;> rfl
theorem gTwo_f {v : Value} (h : v.category = 1) : gTwo v = false := by
  cases hq : gTwo v with
  | false => rfl
  | true => rw [(gTwo_cat v).mp hq] at h; cases h
theorem gPre_get {ls : List (Option Value)} {i j : Nat} {w : Value} (h : (gPre ls i)[j]? = some (some w)) : ls[j]? = some (some w) ∧ ¬ (j + 1 = i ∧ gTwo w = true) := by
  unfold gPre at h
  cases i with
  | zero => exact ⟨h, fun q => by omega⟩
  | succ j' =>
    dsimp only at h
    by_cases hjj : j = j'
    · subst hjj
      cases hl : ls[j]? with
      | none => rw [hl] at h; dsimp only at h; rw [hl] at h; cases h
      | some o =>
        cases o with
        | none => rw [hl] at h; dsimp only at h; rw [hl] at h; cases h
        | some y =>
          rw [hl] at h
          dsimp only at h
          cases hy : gTwo y with
          | true =>
            rw [hy, cond_true, List.getElem?_set] at h
            split at h
            · split at h <;> cases h
            · next q => exact absurd rfl q
          | false =>
            rw [hy, cond_false, hl] at h
            cases h
            exact ⟨rfl, fun q => by rw [hy] at q; cases q.2⟩
    · refine ⟨?_, fun q => by omega⟩
      split at h
      · next y hy =>
        cases hyy : gTwo y with
        | true =>
          rw [hyy, cond_true, List.getElem?_set_ne (fun q => hjj q.symm)] at h
          exact h
        | false =>
          rw [hyy, cond_false] at h
          exact h
      · exact h
theorem gPre_len (ls : List (Option Value)) (i : Nat) : (gPre ls i).length = ls.length := by
  unfold gPre
  split
  · rfl
  · split
    · next y hy => cases gTwo y <;> simp
    · rfl
theorem gSet_1 {ad : Nat → Nat} {ls : List (Option Value)} {i : Nat} {v : Value} (hv : v.category = 1) : ∀ q ∈ gLof ad (gSet ls i v), q ∈ (i, gV ad v) :: (gLof ad ls).filter (fun q => !(q.1 == i) && !(q.1 + 1 == i && q.2.category == 2)) := by
  intro q hq
  obtain ⟨w, hw, e⟩ := gLof_mem.mp hq
  obtain ⟨j, x⟩ := q
  dsimp only at hw e
  subst e
  unfold gSet at hw
  rw [gTwo_f hv, cond_false] at hw
  by_cases hj : j = i
  · subst hj
    rw [List.getElem?_set] at hw
    split at hw
    · split at hw
      · cases hw
        exact List.mem_cons_self
      · cases hw
    · next h => exact absurd rfl h
  · rw [List.getElem?_set_ne (fun h => hj h.symm)] at hw
    obtain ⟨h1, h2⟩ := gPre_get hw
    refine List.mem_cons_of_mem _ (List.mem_filter.mpr ⟨gLof_mem.mpr ⟨w, h1, rfl⟩, ?_⟩)
    simp only [Bool.and_eq_true, Bool.not_eq_true', beq_eq_false_iff_ne, ne_eq, Bool.and_eq_false_iff]
    refine ⟨hj, ?_⟩
    rw [gV_cat]
    by_cases hjj : j + 1 = i
    · exact Or.inr fun hc => h2 ⟨hjj, (gTwo_cat w).mpr hc⟩
    · exact Or.inl hjj
theorem gSet_2 {ad : Nat → Nat} {ls : List (Option Value)} {i : Nat} {v : Value} (hv : v.category = 2) : ∀ q ∈ gLof ad (gSet ls i v), q ∈ (i, gV ad v) :: (gLof ad ls).filter (fun q => !(q.1 == i) && (!(q.1 == i + 1) && !(q.1 + 1 == i && q.2.category == 2))) := by
  intro q hq
  obtain ⟨w, hw, e⟩ := gLof_mem.mp hq
  obtain ⟨j, x⟩ := q
  dsimp only at hw e
  subst e
  unfold gSet at hw
  rw [(gTwo_cat v).mpr hv, cond_true] at hw
  by_cases hj1 : j = i + 1
  · subst hj1
    rw [List.getElem?_set] at hw
    split at hw
    · split at hw <;> cases hw
    · next h => exact absurd rfl h
  · rw [List.getElem?_set_ne (fun h => hj1 h.symm)] at hw
    by_cases hj : j = i
    · subst hj
      rw [List.getElem?_set] at hw
      split at hw
      · split at hw
        · cases hw
          exact List.mem_cons_self
        · cases hw
      · next h => exact absurd rfl h
    · rw [List.getElem?_set_ne (fun h => hj h.symm)] at hw
      obtain ⟨h1, h2⟩ := gPre_get hw
      refine List.mem_cons_of_mem _ (List.mem_filter.mpr ⟨gLof_mem.mpr ⟨w, h1, rfl⟩, ?_⟩)
      simp only [Bool.and_eq_true, Bool.not_eq_true', beq_eq_false_iff_ne, ne_eq, Bool.and_eq_false_iff]
      refine ⟨hj, hj1, ?_⟩
      rw [gV_cat]
      by_cases hjj : j + 1 = i
      · exact Or.inr fun hc => h2 ⟨hjj, (gTwo_cat w).mpr hc⟩
      · exact Or.inl hjj
/-- the end of a method, by the kind of its answer -/
def gRo (k pc : Nat) (r : Option Value) : Prop := match r with
  | none => gRt k = none ∧ decode (gCode k) pc = .ok (.return_, 1)
  | some (.int v) => (gRt k = some .int ∨ (gRt k = some .boolean ∧ (v = 0 ∨ v = 1))) ∧ decode (gCode k) pc = .ok (.ireturn, 1)
  | some (.long _) => gRt k = some .long ∧ decode (gCode k) pc = .ok (.lreturn, 1)
  | _ => False
/-- what a word of the small machine says of the machine -/
def gMk (l : Launch) (X : Nat × (Nat → Int32)) : gP := fun d k pc mc ms ls st σ Q =>
  ∀ (p : Program) (e : Env) (R : Room) (s : State) (m : MethodId) (args : Array Value) (below : List Frame) (meth : Method) (c : Code) (H : Heap) (locs : List Loc) (cells slots base : Nat) (sa : Nat → Nat) (ca : Nat → ClassId) (D : va_G) (lsM : Array Slot) (Qm : State → Prop),
    gCx X p R s m args meth c d k base sa ca D → gRep base sa ca D σ H → base + σ.1.length = s.heap.size + cells → va_S (gA base) s.heap H locs → cells + mc ≤ R.cells → slots + ms ≤ R.slots → lv_has lsM (gMx k) (gLof (gAd base sa) ls) →
    (∀ (r : Option Value) (σ' : gM) (H' : Heap) (locs' : List Loc) (lsM' : Array Slot) (pc' : Nat), Q r σ' → gRep base sa ca D σ' H' → base + σ'.1.length = s.heap.size + (cells + mc) → va_S (gA base) s.heap H' locs' → gRo k pc' r → W p l e R s m args below meth c H' locs' (cells + mc) (slots + ms) Qm (F0 m pc' lsM' r.toList)) →
    W p l e R s m args below meth c H locs cells slots Qm (F0 m pc lsM (st.map (gV (gAd base sa))))
/-- a step that leaves the heap alone -/
theorem gMk_step {l : Launch} {X : Nat × (Nat → Int32)} {d k pc nx mc ms : Nat} {ls ls1 : List (Option Value)} {st st1 : List Value} {σ : gM} {Q : gQ}
    (h : ∀ (p : Program) (e : Env) (R : Room) (s : State) (m : MethodId) (args : Array Value) (below : List Frame) (meth : Method) (c : Code) (H : Heap) (locs : List Loc) (cells slots base : Nat) (sa : Nat → Nat) (ca : Nat → ClassId) (D : va_G) (lsM : Array Slot) (Qm : State → Prop) (ad : Nat → Nat),
      p.tables.exec = Jvm.exec → c.code = gCode k → c.maxLocals = gMx k → gCx X p R s m args meth c d k base sa ca D → cells ≤ R.cells → slots ≤ R.slots → lv_has lsM (gMx k) (gLof ad ls) → (∀ lsM', lv_has lsM' (gMx k) (gLof ad ls1) → W p l e R s m args below meth c H locs cells slots Qm (F0 m nx lsM' (st1.map (gV ad)))) → W p l e R s m args below meth c H locs cells slots Qm (F0 m pc lsM (st.map (gV ad))))
    (kk : gMk l X d k nx mc ms ls1 st1 σ Q) : gMk l X d k pc mc ms ls st σ Q := by
  intro p e R s m args below meth c H locs cells slots base sa ca D lsM Qm hC hR hsz hS hc hs hl hret
  exact h p e R s m args below meth c H locs cells slots base sa ca D lsM Qm (gAd base sa) hC.1 hC.2.1 hC.2.2.1 hC (by omega) (by omega) hl fun lsM' hl' => kk p e R s m args below meth c H locs cells slots base sa ca D lsM' Qm hC hR hsz hS hc hs hl' hret
