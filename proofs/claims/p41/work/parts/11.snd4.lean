section
variable {l : Launch} {X : Nat × (Nat → Int32)}
noncomputable def gTs (k : Nat) : List Jvm.Cond := .code (gY k) (gCode k) (gMx k) (gRt k) :: gGW
noncomputable def gRm (d mc ms : Nat) : Room := { frames := d, cells := mc, slots := ms, locals := 64 * d }
/-- a method's start and end -/
def gPw (X : Nat × (Nat → Int32)) (base : Nat) (sa : Nat → Nat) (ca : Nat → ClassId) (D : va_G) (σ : gM) : State → Prop := fun U => gRep base sa ca D σ U.heap ∧ va_K D vwCl (gTys ca) U ∧ gSt3 X base sa U U.heap ∧ base + σ.1.length = U.heap.size
def gTe (r : Option Value) : Prop := match r with
  | none => True
  | some (.int _) => True
  | some (.long _) => True
  | _ => False
def gTd (k : Nat) (r : Option Value) : Prop := gTe r ∧ (gRt k = none → r = none)
def gQw (base : Nat) (sa : Nat → Nat) (ca : Nat → ClassId) (D : va_G) (σ : gM) (k mc : Nat) (Rr : gQ) : Array Value → State → Outcome → State → Prop := fun _ st o t => ∃ (r : Option Value) (σ' : gM), o = .returned r ∧ Rr r σ' ∧ gRep base sa ca D σ' t.heap ∧ σ'.1.length = σ.1.length + mc ∧ gTd k r ∧ va_F (gA base) st t
theorem gLay_sl (vs : List Value) : (lg_sl vs).length = (gLay vs).length := by
  induction vs with
  | nil => rfl
  | cons v vs ih =>
    unfold lg_sl at ih ⊢
    rw [List.flatMap_cons, List.length_append, ih, show gLay (v :: vs) = bif gTwo v then some v :: none :: gLay vs else some v :: gLay vs from rfl]
    cases h : gTwo v with
    | true =>
      rw [if_pos ((gTwo_cat v).mp h), cond_true]
      simp
      omega
    | false =>
      rw [if_neg (fun q => by rw [(gTwo_cat v).mpr q] at h; cases h), cond_false]
      simp
      omega
theorem gLay_V (ad : Nat → Nat) (vs : List Value) : (gLay (vs.map (gV ad))).length = (gLay vs).length := by
  induction vs with
  | nil => rfl
  | cons v vs ih =>
    rw [List.map_cons]
    unfold gLay
    rw [gTwo_V]
    cases gTwo v <;> simp [ih]
theorem gLay_args (ad : Nat → Nat) : ∀ (vs : List Value) (i j : Nat) (v : Value), (gLay vs)[j]? = some (some v) → (i + j, gV ad v) ∈ lv_args i (vs.map (gV ad)) := by
  intro vs
  induction vs with
  | nil => intro i j v h; simp [gLay] at h
  | cons w ws ih =>
    intro i j v h
    rw [List.map_cons]
    unfold lv_args
    rw [gV_cat]
    unfold gLay at h
    cases hw : gTwo w with
    | true =>
      rw [hw, cond_true] at h
      rw [if_pos ((gTwo_cat w).mp hw)]
      match j, h with
      | 0, h => cases h; exact List.mem_cons_self
      | 1, h => cases h
      | j + 2, h =>
        have := ih (i + 2) j v (by simpa using h)
        rw [show i + 2 + j = i + (j + 2) by omega] at this
        exact List.mem_cons_of_mem _ this
    | false =>
      rw [hw, cond_false] at h
      rw [if_neg (fun q => by rw [(gTwo_cat w).mpr q] at hw; cases hw)]
      match j, h with
      | 0, h => cases h; exact List.mem_cons_self
      | j + 1, h =>
        have := ih (i + 1) j v (by simpa using h)
        rw [show i + 1 + j = i + (j + 1) by omega] at this
        exact List.mem_cons_of_mem _ this
theorem gEn_args (ad : Nat → Nat) (k : Nat) (vs : List Value) : ∀ q ∈ gLof ad (gEn k vs), q ∈ lv_args 0 (vs.map (gV ad)) := by
  intro q hq
  obtain ⟨v, hv, e⟩ := gLof_mem.mp hq
  obtain ⟨j, x⟩ := q
  dsimp only at hv e
  subst e
  unfold gEn at hv
  by_cases hj : j < (gLay vs).length
  · rw [List.getElem?_append_left hj] at hv
    have := gLay_args ad vs 0 j v hv
    rwa [Nat.zero_add] at this
  · rw [List.getElem?_append_right (by omega)] at hv
    have := List.eq_of_mem_replicate (List.mem_of_getElem? hv)
    cases this
theorem gBlind {av : List Value} {base : Nat} {sa : Nat → Nat} {ca : Nat → ClassId} {D : va_G} {σ : gM} : FrameBlind (va_Pc av (gPw X base sa ca D σ)) := fun a U g mk q => by
  obtain ⟨q0, q1, q2, q3, q4⟩ := q
  exact ⟨q0, q1, va_K.moved (u := U) (U := U.calling g mk a) (Vm.Alike.refl U.vm) q2, gSt3.same (u := U) (U := U.calling g mk a) rfl q3, q4⟩
/-- a word at a method's entry gives its contract -/
theorem gMet {d y m1 m2 base : Nat} {sa : Nat → Nat} {ca : Nat → ClassId} {D : va_G} {vs : List Value} {σ : gM} {Rr : gQ} (hy : y < 257) (hlay : (gLay vs).length ≤ gMx y) (h : gMk l X d y 0 m1 m2 (gEn y vs) [] σ Rr) :
    Met l (gY y) (gTs y) (gRm d m1 m2) (va_Pc (vs.map (gV (gAd base sa))) (gPw X base sa ca D σ)) (gQw base sa ca D σ y m1 Rr) m1 m2 (gA base) := by
  have hcl := gCls_eq y (by omega)
  refine Met.ofW (cc := gCode y) (maxL := gMx y) (ret := gRt y) hcl.2.1 rfl ?_
  intro p e s m args below meth c s₁ B hml hv
  obtain ⟨rfl, hRep, hK, hSt, hlen⟩ := hv
  have hts := atoms_spec (ws := gTs y) B.pre
  have hown : s.vm.findClass (gCn (gOwn y)) = some m.cls := by rw [← hcl.1]; exact findClass_of_methodNamed B.named
  have hl := lv_entry (vs.map (gV (gAd base sa))) (n := gMx y) (by rw [gLay_sl, gLay_V]; exact hlay)
  rw [lg_entry_eq]
  have hlocks := B.notSynchronized
  refine h p e (gRm d m1 m2) s m _ below meth c s.heap [] 0 0 base sa ca D _ _ ⟨B.exec, B.bytes, hml, hown, fun w hw => hts w (List.mem_cons_of_mem _ hw), hK, hSt, Nat.le_refl _, Nat.le_refl _, fun hn => (name_of_methodNamed B.named B.method).1.trans hn, by omega⟩ hRep (by omega) va_S.rf (by show 0 + m1 ≤ m1; omega) (by show 0 + m2 ≤ m2; omega) (lv_less hl (gEn_args _ y vs)) ?_
  intro r σ' H' locs' lsM' pc' z1 z2 z3 z4 z5
  rw [Nat.zero_add, Nat.zero_add]
  have hq : ∀ t : State, t.heap = H' → s.WarmedH t.vm → gTd y r → gQw base sa ca D σ y m1 Rr (vs.map (gV (gAd base sa))).toArray s (.returned r) t := fun t ht hW htd => ⟨r, σ', rfl, z1, by rw [ht]; exact z2, by omega, htd, va_S.F z4 ht⟩
  cases r with
  | none => exact W.vret B.exec B.bytes (B.returns.trans z5.1) (fun t ht hW => hq t ht hW ⟨trivial, fun _ => rfl⟩) z4.2.2 z5.2 hlocks
  | some v =>
    cases v with
    | int v =>
      rcases z5.1 with hr | ⟨hr, hv⟩
      · exact W.zret B.exec B.bytes (B.returns.trans hr) rfl (fun t ht hW => hq t ht hW ⟨trivial, fun q => by rw [hr] at q; cases q⟩) z4.2.2 z5.2 hlocks
      · exact W.zret B.exec B.bytes (B.returns.trans hr) (by rcases hv with rfl | rfl <;> rfl) (fun t ht hW => hq t ht hW ⟨trivial, fun q => by rw [hr] at q; cases q⟩) z4.2.2 z5.2 hlocks
    | long v => exact W.lret B.exec B.bytes (B.returns.trans z5.1) (fun t ht hW => hq t ht hW ⟨trivial, fun q => by rw [z5.1] at q; cases q⟩) z4.2.2 z5.2 hlocks
    | _ => exact z5.elim
/-- behind a call -/
theorem gCall {p : Program} {e : Env} {R0 : Room} {s : State} {m : MethodId} {args : Array Value} {below : List Frame} {meth : Method} {c : Code} {H : Heap} {locs : List Loc} {cells slots base : Nat} {sa : Nat → Nat} {ca : Nat → ClassId} {D : va_G} {Qm : State → Prop} {σ : gM} {y m1 m2 pc : Nat} {Rr : gQ} {lsM : Array Slot} {st0 rest : List Value} {a : Array Value}
    (hr : va_Run p l e R0 s m args below meth c H locs cells slots m1 m2 (F0 m pc lsM st0) rest (gQw base sa ca D σ y m1 Rr a) (gA base)) (hS : va_S (gA base) s.heap H locs)
    (kk : ∀ (r : Option Value) (σ' : gM) (H1 : Heap) (locs1 : List Loc), Rr r σ' → gTd y r → gRep base sa ca D σ' H1 → σ'.1.length = σ.1.length + m1 → va_S (gA base) s.heap H1 locs1 → W p l e R0 s m args below meth c H1 locs1 (cells + m1) (slots + m2) Qm (F0 m (pc + 3) lsM (r.toList ++ rest))) : W p l e R0 s m args below meth c H locs cells slots Qm (F0 m pc lsM st0) := by
  intro T hT Xs
  obtain ⟨v, st₀, t, T', L, h0, X', hL, e1, e2, ⟨r, σ', hv, h1, h2, h3, h4, hz, hk⟩, st⟩ := hr T hT Xs
  cases hv
  rw [h0] at hz hk
  obtain ⟨t2, a1, b1⟩ := kk v σ' T'.heap (locs ++ L) h1 h4 (by rw [e1]; exact h2) h3
    ⟨Nat.le_trans hS.1 (by rw [e1]; exact hz), fun q h1 h2 => by rw [e1, hk q (Nat.lt_of_lt_of_le h1 hS.1) h2]; exact hS.2.1 q h1 h2, fun q hq => by
      rcases List.mem_append.mp hq with h | h
      · exact hS.2.2 q h
      · exact hL q h⟩ T' rfl X'
  exact ⟨t2, st t2 a1, b1⟩
theorem gTd_V {ad : Nat → Nat} {y : Nat} {r : Option Value} (h : gTd y r) : r.toList.map (gV ad) = r.toList := by
  cases r with
  | none => rfl
  | some v => cases v <;> first | rfl | exact h.1.elim
theorem gGood {ws : List Jvm.Cond} (h : ∀ w ∈ ws, w ∈ gGW) : GoodIn gGW ws := fun w hw => ⟨h w hw, good_of_word (List.mem_filter.mp (h w hw)).2⟩
theorem gTs_in {y : Nat} (hy : y < 257) : ∀ w ∈ gTs y, w ∈ gGW := by
  intro w hw
  rcases List.mem_cons.mp hw with rfl | hw
  · exact gw_of (gCode_in y hy) rfl
  · exact hw
theorem gVirt_ok : ∀ y ∈ gVirt, gOwn y < 12 ∧ y < 257 ∧ gSt y = false := by decide +kernel
theorem inv_callV {k pc nx y n : Nat} (h : gF k pc = some (73, nx, y, n, 0, 0)) : ∃ idx, decode (gCode k) pc = .ok (.invokevirtual idx, 3) ∧ nx = pc + 3 ∧ y ∈ gVirt ∧ n = gNA y ∧ ∃ q, (gOwn k, idx, y, q) ∈ gCA := by
  obtain ⟨i, len, hd, hc⟩ := gF_ok h
  cases i <;> simp [gCk] at hc
  case invokevirtual idx =>
    obtain ⟨⟨rfl, h1, h2, rfl, h3⟩, h5⟩ := hc
    exact ⟨idx, hd, rfl, h1, h3, gIs_spec h5⟩
  all_goals first | omega | (rename_i c0 off; have := gCc_le c0; omega) | (have := gKd_le (gTy y n); omega)
theorem inv_callS {k pc nx y n : Nat} (h : gF k pc = some (74, nx, y, n, 0, 0)) : ∃ idx, decode (gCode k) pc = .ok (.invokestatic idx, 3) ∧ nx = pc + 3 ∧ gSt y = true ∧ n = gNA y ∧ ((∃ q, (gOwn k, idx, y, q) ∈ gCA) ∨ ∃ q, (gOwn k, idx, y, q) ∈ gCN) := by
  obtain ⟨i, len, hd, hc⟩ := gF_ok h
  cases i <;> simp [gCk] at hc
  case invokestatic idx =>
    obtain ⟨⟨rfl, h2, rfl, h3⟩, h5⟩ := hc
    exact ⟨idx, hd, rfl, h2, h3, h5.imp gIs_spec gIs_spec⟩
  all_goals first | omega | (rename_i c0 off; have := gCc_le c0; omega) | (have := gKd_le (gTy y n); omega)
theorem inv_callI {k pc nx y n : Nat} (h : gF k pc = some (75, nx, y, n, 0, 0)) : ∃ idx, decode (gCode k) pc = .ok (.invokespecial idx, 3) ∧ nx = pc + 3 ∧ gSt y = false ∧ gRt y = none ∧ (gY y).name = "<init>" ∧ n = gNA y ∧ ((∃ q, (gOwn k, idx, y, q) ∈ gCA) ∨ ∃ q, (gOwn k, idx, y, q) ∈ gCN) := by
  obtain ⟨i, len, hd, hc⟩ := gF_ok h
  cases i <;> simp [gCk] at hc
  case invokespecial idx =>
    obtain ⟨⟨rfl, h2, h3, h4, rfl, h6⟩, h5⟩ := hc
    exact ⟨idx, hd, rfl, h2, h3, h4, h6, h5.imp gIs_spec gIs_spec⟩
  all_goals first | omega | (rename_i c0 off; have := gCc_le c0; omega) | (have := gKd_le (gTy y n); omega)
theorem gCN_nw {own idx y q : Nat} (h : (own, idx, y, q) ∈ gCN) : Cond.methodLinkNest (gCn own) idx (gY y) RX10 ∈ gNW := List.mem_append_right _ (List.mem_map.mpr ⟨_, h, rfl⟩)
theorem snd_callV : r_callV (gMk l X) := by
  intro d k pc nx mc ms ls st Kd I L R Q y n b n0 As Rr hF hn hb0 hcat hlay hcal kk
  intro p e R0 s m args below meth c H locs cells slots base sa ca D lsM Qm hC hR hsz hS hc hs hl hret
  obtain ⟨idx, hdg, rfl, hy, rfl, q0, hq0⟩ := inv_callV hF
  have hv := gVirt_ok y hy
  have hcl := gCls_eq y (by omega)
  refine gSized hR hsz hS hC.2.2.2.2.2.2.2.2.2.2 (fun hH => ?_)
  have hM := gMet (l := l) (X := X) (base := base) (sa := sa) (ca := ca) (D := D) hv.2.1 hlay hcal
  rw [show ((As.reverse ++ (.ref b :: st)).map (gV (gAd base sa)) : List Value) = (As.map (gV (gAd base sa))).reverse ++ .ref (gAd base sa b) :: st.map (gV (gAd base sa)) by simp [gV]]
  have he := gWo_at (base := base) (ad := gAd base sa) (ca := ca) (σ := (Kd, I, L, R)) hb0
  rw [gEt_obj hv.1, ← gAd_lt (base := base) (sa := sa) (gRep_lt hR hb0)] at he
  have hrecv := va_recv hC.2.2.2.2.2.1 hR.2 (gCl_at _ hv.1) he
  rw [← gCn_cl _ hv.1, ← hcl.1] at hrecv
  have hln := gCA_ok _ hq0
  refine gCall (va_runV (C := (gY y).cls) (As := As.map (gV (gAd base sa))) (rest := st.map (gV (gAd base sa))) ⟨hC.1, hC.2.1, hC.2.2.1, hC.2.2.2.1, hC.2.2.2.2.1⟩ hM (cwV (gNA y) hC.2.2.2.2.1 (gGood fun w hw => ?_) rfl rfl rfl ⟨rfl, hcl.2.2.1, hcl.2.2.2.1, hcl.2.2.2.2.1⟩ ⟨?_, ?_⟩) ⟨gBlind, hrecv, fun U hU hW => ⟨rfl, ?_⟩⟩ rfl (by simp [hn]) hl.1 rfl (lv_room (by rw [gV_cats]; exact hcat)) hdg ⟨by omega, by omega⟩) hS (fun r σ' H1 locs1 z1 z2 z3 z4 z5 => ?_)
  · unfold wsV at hw
    rcases List.mem_append.mp hw with hw | hw
    · simp only [List.mem_cons, List.not_mem_nil, or_false] at hw
      rcases hw with rfl | rfl | rfl | rfl
      · exact gw_of (List.mem_of_getElem? hln.1) rfl
      · have := gInst_in y (by omega)
        rw [hv.2.2] at this
        exact gw_of (List.mem_of_getElem? this) rfl
      · exact gw_of (List.mem_of_getElem? (gSel_in y hy)) rfl
      · exact gw_of (List.mem_of_getElem? (gIni_in y (by omega))) rfl
    · exact gTs_in hv.2.1 w hw
  · have := hC.2.2.2.2.2.2.2.1
    show d + 1 ≤ R0.frames
    omega
  · have := hC.2.2.2.2.2.2.2.2.1
    have := hcl.2.2.2.2.2
    show 8 + (gMx y + 11) + 64 * d ≤ R0.locals
    omega
  · refine ⟨by rw [hU]; exact hR, va_K.moved hW.alike hC.2.2.2.2.2.1, ?_, by rw [hU]; exact hH.symm⟩
    rw [hU]
    exact (hC.2.2.2.2.2.2.1.kept hS.2.1).moved hW
  · have := kk r σ'.1 σ'.2.1 σ'.2.2.1 σ'.2.2.2 z1 p e R0 s m args below meth c H1 locs1 cells slots base sa ca D lsM Qm hC z3 (by have hsz : base + Kd.length = _ := hsz; show base + σ'.1.length = _; have z4 : σ'.1.length = Kd.length + 0 := z4; omega) z5 hc hs hl hret
    rw [List.map_append, gTd_V z2] at this
    exact this
theorem snd_callS : r_callS (gMk l X) := by
  intro d k pc nx mc ms ls st Kd I L R Q y n As Rr hF hn hcat hlay hcal kk
  intro p e R0 s m args below meth c H locs cells slots base sa ca D lsM Qm hC hR hsz hS hc hs hl hret
  obtain ⟨idx, hdg, rfl, hst, rfl, hlk⟩ := inv_callS hF
  have hy : y < 257 := by
    rcases hlk with ⟨q, hq⟩ | ⟨q, hq⟩
    · exact (gCA_ok _ hq).2
    · exact (gCN_ok _ hq).2
  have hcl := gCls_eq y (by omega)
  refine gSized hR hsz hS hC.2.2.2.2.2.2.2.2.2.2 (fun hH => ?_)
  have hM := gMet (l := l) (X := X) (base := base) (sa := sa) (ca := ca) (D := D) hy hlay hcal
  rw [show ((As.reverse ++ st).map (gV (gAd base sa)) : List Value) = (As.map (gV (gAd base sa))).reverse ++ st.map (gV (gAd base sa)) by simp]
  have hstw : Cond.static (gY y) ∈ gGW := by
    have := gInst_in y hy
    rw [hst] at this
    exact gw_of (List.mem_of_getElem? this) rfl
  have hiniw : Cond.initialized (gY y).cls ∈ gGW := gw_of (List.mem_of_getElem? (gIni_in y hy)) rfl
  have hroom : (gRm d 0 0).frames + 1 ≤ R0.frames ∧ 8 + (gMx y + 11) + (gRm d 0 0).locals ≤ R0.locals := by
    have a1 := hC.2.2.2.2.2.2.2.1
    have a2 := hC.2.2.2.2.2.2.2.2.1
    have a3 := hcl.2.2.2.2.2
    constructor
    · show d + 1 ≤ R0.frames
      omega
    · show 8 + (gMx y + 11) + 64 * d ≤ R0.locals
      omega
  have hpre : PreS s H (va_Pc (As.map (gV (gAd base sa))) (gPw X base sa ca D (Kd, I, L, R))) (As.map (gV (gAd base sa))) := ⟨gBlind, fun U hU hW => ⟨rfl, by rw [hU]; exact hR, va_K.moved hW.alike hC.2.2.2.2.2.1, by rw [hU]; exact (hC.2.2.2.2.2.2.1.kept hS.2.1).moved hW, by rw [hU]; exact hH.symm⟩⟩
  have hrun : va_Run p l e R0 s m args below meth c H locs cells slots 0 0 (F0 m pc lsM ((As.map (gV (gAd base sa))).reverse ++ st.map (gV (gAd base sa)))) (st.map (gV (gAd base sa))) (gQw base sa ca D (Kd, I, L, R) y 0 Rr (As.map (gV (gAd base sa))).toArray) (gA base) := by
    rcases hlk with ⟨q0, hq0⟩ | ⟨q0, hq0⟩
    · refine va_runS ⟨hC.1, hC.2.1, hC.2.2.1, hC.2.2.2.1, hC.2.2.2.2.1⟩ hM (va_cwS (gNA y) hC.2.2.2.2.1 (gGood fun w hw => ?_) rfl rfl rfl ⟨hcl.2.2.1, hcl.2.2.2.1, hcl.2.2.2.2.1⟩ hroom) hpre rfl (by simp [hn]) hl.1 rfl (lv_room (by rw [gV_cats]; exact hcat)) hdg ⟨by omega, by omega⟩
      unfold va_wsS at hw
      rcases List.mem_append.mp hw with hw | hw
      · simp only [List.mem_cons, List.not_mem_nil, or_false] at hw
        rcases hw with rfl | rfl | rfl
        · exact gw_of (List.mem_of_getElem? (gCA_ok _ hq0).1) rfl
        · exact hstw
        · exact hiniw
      · exact gTs_in hy w hw
    · exact va_runSN (host := RX10) ⟨hC.1, hC.2.1, hC.2.2.1, hC.2.2.2.1, hC.2.2.2.2.1⟩ hM ⟨va_cnB (gNA y) hC.2.2.2.2.1 (gGood (gTs_in hy)) rfl rfl rfl (hC.2.2.2.2.2.2.1.1 _ (gCN_nw hq0)) (hC.2.2.2.2.1 _ hiniw) ⟨hcl.2.2.1, hcl.2.2.2.1, hcl.2.2.2.2.1⟩ hroom, hC.2.2.2.2.1 _ hstw, trivial⟩ hpre rfl (by simp [hn]) hl.1 rfl (lv_room (by rw [gV_cats]; exact hcat)) hdg ⟨by omega, by omega⟩
  refine gCall hrun hS (fun r σ' H1 locs1 z1 z2 z3 z4 z5 => ?_)
  have := kk r σ'.1 σ'.2.1 σ'.2.2.1 σ'.2.2.2 z1 p e R0 s m args below meth c H1 locs1 cells slots base sa ca D lsM Qm hC z3 (by have hsz : base + Kd.length = _ := hsz; show base + σ'.1.length = _; have z4 : σ'.1.length = Kd.length + 0 := z4; omega) z5 hc hs hl hret
  rw [List.map_append, gTd_V z2] at this
  exact this
theorem snd_callI : r_callI (gMk l X) := by
  intro d k pc nx mc ms ls st Kd I L R Q y n b m1 m2 As Rr hF hn hcat hlay hcal kk
  intro p e R0 s m args below meth c H locs cells slots base sa ca D lsM Qm hC hR hsz hS hc hs hl hret
  obtain ⟨idx, hdg, rfl, hst, hrt, hnm, rfl, hlk⟩ := inv_callI hF
  have hy : y < 257 := by
    rcases hlk with ⟨q, hq⟩ | ⟨q, hq⟩
    · exact (gCA_ok _ hq).2
    · exact (gCN_ok _ hq).2
  have hcl := gCls_eq y (by omega)
  refine gSized hR hsz hS hC.2.2.2.2.2.2.2.2.2.2 (fun hH => ?_)
  have hM := gMet (l := l) (X := X) (base := base) (sa := sa) (ca := ca) (D := D) hy hlay hcal
  rw [show ((As.reverse ++ (.ref b :: st)).map (gV (gAd base sa)) : List Value) = (As.map (gV (gAd base sa))).reverse ++ .ref (gAd base sa b) :: st.map (gV (gAd base sa)) by simp [gV]]
  have hinw : Cond.instanceMethod (gY y) ∈ gGW := by
    have := gInst_in y hy
    rw [hst] at this
    exact gw_of (List.mem_of_getElem? this) rfl
  have hiniw : Cond.initialized (gY y).cls ∈ gGW := gw_of (List.mem_of_getElem? (gIni_in y hy)) rfl
  have hroom : (gRm d m1 m2).frames + 1 ≤ R0.frames ∧ 8 + (gMx y + 11) + (gRm d m1 m2).locals ≤ R0.locals := by
    have a1 := hC.2.2.2.2.2.2.2.1
    have a2 := hC.2.2.2.2.2.2.2.2.1
    have a3 := hcl.2.2.2.2.2
    constructor
    · show d + 1 ≤ R0.frames
      omega
    · show 8 + (gMx y + 11) + 64 * d ≤ R0.locals
      omega
  have hw0 : gTs y = Cond.code (gY y) (gCode y) (gMx y) none :: gGW := by unfold gTs; rw [hrt]
  have hpre : PreS s H (va_Pc ((.ref b :: As).map (gV (gAd base sa))) (gPw X base sa ca D (Kd, I, L, R))) (.ref (gAd base sa b) :: As.map (gV (gAd base sa))) := ⟨gBlind, fun U hU hW => ⟨rfl, by rw [hU]; exact hR, va_K.moved hW.alike hC.2.2.2.2.2.1, by rw [hU]; exact (hC.2.2.2.2.2.2.1.kept hS.2.1).moved hW, by rw [hU]; exact hH.symm⟩⟩
  have hrun : va_Run p l e R0 s m args below meth c H locs cells slots m1 m2 (F0 m pc lsM ((As.map (gV (gAd base sa))).reverse ++ .ref (gAd base sa b) :: st.map (gV (gAd base sa)))) (st.map (gV (gAd base sa))) (gQw base sa ca D (Kd, I, L, R) y m1 Rr (.ref (gAd base sa b) :: As.map (gV (gAd base sa))).toArray) (gA base) := by
    rcases hlk with ⟨q0, hq0⟩ | ⟨q0, hq0⟩
    · exact va_runI ⟨hC.1, hC.2.1, hC.2.2.1, hC.2.2.2.1, hC.2.2.2.2.1⟩ hM (cwI (gNA y) hC.2.2.2.2.1 (gGood (gTs_in hy)) hw0 rfl rfl (hC.2.2.2.2.1 _ hiniw) (hC.2.2.2.2.1 _ (gw_of (List.mem_of_getElem? (gCA_ok _ hq0).1) rfl)) (hC.2.2.2.2.1 _ hinw) hnm ⟨hcl.2.2.1, hcl.2.2.2.1, hcl.2.2.2.2.1⟩ hroom) hpre rfl (by simp [hn]) hl.1 rfl (lv_room (by rw [gV_cats]; exact hcat)) hdg ⟨by omega, by omega⟩
    · exact va_runIN (host := RX10) ⟨hC.1, hC.2.1, hC.2.2.1, hC.2.2.2.1, hC.2.2.2.2.1⟩ hM ⟨va_cnB (gNA y) hC.2.2.2.2.1 (gGood (gTs_in hy)) hw0 rfl rfl (hC.2.2.2.2.2.2.1.1 _ (gCN_nw hq0)) (hC.2.2.2.2.1 _ hiniw) ⟨hcl.2.2.1, hcl.2.2.2.1, hcl.2.2.2.2.1⟩ hroom, hnm, hC.2.2.2.2.1 _ hinw⟩ hpre rfl (by simp [hn]) hl.1 rfl (lv_room (by rw [gV_cats]; exact hcat)) hdg ⟨by omega, by omega⟩
  refine gCall hrun hS (fun r σ' H1 locs1 z1 z2 z3 z4 z5 => ?_)
  have hrn : r = none := z2.2 hrt
  subst hrn
  have := kk none σ'.1 σ'.2.1 σ'.2.2.1 σ'.2.2.2 z1 p e R0 s m args below meth c H1 locs1 (cells + m1) (slots + m2) base sa ca D lsM Qm hC z3 (by have hsz : base + Kd.length = _ := hsz; show base + σ'.1.length = _; have z4 : σ'.1.length = Kd.length + m1 := z4; omega) z5 (by omega) (by omega) hl (fun r σ2 H' locs' lsM' pc' w1 w2 w3 w4 w5 => by
    have := hret r σ2 H' locs' lsM' pc' w1 w2 (by omega) w4 w5
    rw [show cells + m1 + mc = cells + (mc + m1) by omega, show slots + m2 + ms = slots + (ms + m2) by omega]
    exact this)
  exact this
theorem inv_objI {k pc nx : Nat} (h : gF k pc = some (76, nx, 0, 0, 0, 0)) : ∃ idx, decode (gCode k) pc = .ok (.invokespecial idx, 3) ∧ nx = pc + 3 ∧ ∃ q, (gOwn k, idx, 0, q) ∈ gOI := by
  obtain ⟨i, len, hd, hc⟩ := gF_ok h
  cases i <;> simp [gCk] at hc
  case invokespecial idx =>
    obtain ⟨⟨rfl, rfl⟩, h5⟩ := hc
    exact ⟨idx, hd, rfl, gIs_spec h5⟩
  all_goals first | omega | (rename_i c0 off; have := gCc_le c0; omega) | (have := gKd_le (gTy 0 0); omega)
theorem snd_objI : r_objI (gMk l X) := by
  intro d k pc nx mc ms ls st Kd I L R Q a hF hcat kk
  intro p e R0 s m args below meth c H locs cells slots base sa ca D lsM Qm hC hR hsz hS hc hs hl hret
  obtain ⟨idx, hdg, rfl, q0, hq0⟩ := inv_objI hF
  have a1 := hC.2.2.2.2.2.2.2.1
  have a2 := hC.2.2.2.2.2.2.2.2.1
  refine W.objInit hC.1 hC.2.1 hC.2.2.2.1 (hC.2.2.2.2.1 _ (gw_of (List.mem_of_getElem? (gOI_ok _ hq0)) rfl)) (hC.2.2.2.2.1 _ (gw_of gOb1 rfl)) (hC.2.2.2.2.1 _ (gw_of gOb2 rfl)) rfl (hl.1.trans hC.2.2.1.symm) rfl hdg (by omega) ?_ (kk p e R0 s m args below meth c H locs cells slots base sa ca D lsM Qm hC hR hsz hS hc hs hl hret)
  show 2 * 0 + _ + 12 ≤ _
  rw [gV_cats]
  omega
theorem inv_copy {k pc nx : Nat} (h : gF k pc = some (77, nx, 0, 0, 0, 0)) : ∃ idx, decode (gCode k) pc = .ok (.invokestatic idx, 3) ∧ nx = pc + 3 ∧ ∃ q, (gOwn k, idx, 0, q) ∈ gCP := by
  obtain ⟨i, len, hd, hc⟩ := gF_ok h
  cases i <;> simp [gCk] at hc
  case invokestatic idx =>
    obtain ⟨⟨rfl, rfl⟩, h5⟩ := hc
    exact ⟨idx, hd, rfl, gIs_spec h5⟩
  all_goals first | omega | (rename_i c0 off; have := gCc_le c0; omega) | (have := gKd_le (gTy 0 0); omega)
theorem gNfw : nativeFrameWords "java/lang/System" "arraycopy" 5 = 7 := by decide +kernel
theorem gCopy_o {α : Type} {f : Nat → Nat → α} {a b sp dp n x : Nat} (h : x ≠ b) : gCopy f a b sp dp n x = f x := by simp [gCopy, h]
theorem gCopy_s {α : Type} {f : Nat → Nat → α} {a b sp dp n : Nat} : gCopy f a b sp dp n b = va_cpy (f a) (f b) sp dp n := by simp [gCopy]

theorem snd_copyI : r_copyI (gMk l X) := by
  intro d k pc nx mc ms ls st Kd I L R Q a b n0 n1 sp dp n hF hq0 hq1 h1 h2 h3 h4 h5 hcat kk
  intro p e R0 s m args below meth c H locs cells slots base sa ca D lsM Qm hC hR hsz hS hc hs hl hret
  obtain ⟨idx, hdg, rfl, q0, hq⟩ := inv_copy hF
  have a1 := hC.2.2.2.2.2.2.2.1
  have a2 := hC.2.2.2.2.2.2.2.2.1
  have he0 := gWo_at (base := base) (ad := gAd base sa) (ca := ca) (σ := (Kd, I, L, R)) hq0
  have he1 := gWo_at (base := base) (ad := gAd base sa) (ca := ca) (σ := (Kd, I, L, R)) hq1
  rw [gEt_12] at he0 he1
  show W p l e R0 s m args below meth c H locs cells slots Qm (F0 m pc lsM (.int n :: .int dp :: .ref (gAd base sa b) :: .int sp :: .ref (gAd base sa a) :: st.map (gV (gAd base sa))))
  rw [gAd_lt (gRep_lt hR hq0), gAd_lt (gRep_lt hR hq1)]
  refine va_copyi hC.1 hC.2.1 (hC.2.2.1.trans hl.1.symm) hC.2.2.2.1 (hC.2.2.2.2.1 _ (gw_of (List.mem_of_getElem? (gCP_ok _ hq)) rfl)) (hC.2.2.2.2.1 _ (gw_of gCp1 rfl)) (hC.2.2.2.2.1 _ (gw_of gCp2 rfl)) (hC.2.2.2.2.1 _ (gw_of gCp3 rfl)) hC.2.2.2.2.2.1 hR.2 gWo_D hS a b 0 0 he0 he1 rfl rfl rfl h1 h2 h3 h4 h5 (fun _ _ => rfl) (by omega) (by rw [gV_cats, gNfw]; omega) hdg (fun H1 locs1 g1 _ g3 => ?_)
  have g1 := gP_set (σ' := (Kd, gCopy I a b sp.toNatClampNeg dp.toNatClampNeg n.toNatClampNeg, L, R)) g1 rfl hq1 (by rw [gEt_12]; exact congrArg (fun f => (Sum.inl (ca 12, n1, Sum.inl f) : va_E)) (gCopy_s (f := I) (a := a) (b := b)).symm) (fun x q' hb => gEt_congr (σ := (Kd, I, L, R)) (σ' := (Kd, gCopy I a b sp.toNatClampNeg dp.toNatClampNeg n.toNatClampNeg, L, R)) (gCopy_o hb) rfl rfl q')
  exact kk p e R0 s m args below meth c H1 locs1 cells slots base sa ca D lsM Qm hC ⟨hR.1, g1⟩ hsz g3 hc hs hl hret
theorem snd_copyL : r_copyL (gMk l X) := by
  intro d k pc nx mc ms ls st Kd I L R Q a b n0 n1 sp dp n hF hq0 hq1 h1 h2 h3 h4 h5 hcat kk
  intro p e R0 s m args below meth c H locs cells slots base sa ca D lsM Qm hC hR hsz hS hc hs hl hret
  obtain ⟨idx, hdg, rfl, q0, hq⟩ := inv_copy hF
  have a1 := hC.2.2.2.2.2.2.2.1
  have a2 := hC.2.2.2.2.2.2.2.2.1
  have he0 := gWo_at (base := base) (ad := gAd base sa) (ca := ca) (σ := (Kd, I, L, R)) hq0
  have he1 := gWo_at (base := base) (ad := gAd base sa) (ca := ca) (σ := (Kd, I, L, R)) hq1
  rw [gEt_13] at he0 he1
  show W p l e R0 s m args below meth c H locs cells slots Qm (F0 m pc lsM (.int n :: .int dp :: .ref (gAd base sa b) :: .int sp :: .ref (gAd base sa a) :: st.map (gV (gAd base sa))))
  rw [gAd_lt (gRep_lt hR hq0), gAd_lt (gRep_lt hR hq1)]
  refine va_copyl hC.1 hC.2.1 (hC.2.2.1.trans hl.1.symm) hC.2.2.2.1 (hC.2.2.2.2.1 _ (gw_of (List.mem_of_getElem? (gCP_ok _ hq)) rfl)) (hC.2.2.2.2.1 _ (gw_of gCp1 rfl)) (hC.2.2.2.2.1 _ (gw_of gCp2 rfl)) (hC.2.2.2.2.1 _ (gw_of gCp3 rfl)) hC.2.2.2.2.2.1 hR.2 gWo_D hS a b 1 1 he0 he1 rfl rfl rfl h1 h2 h3 h4 h5 (fun _ _ => rfl) (by omega) (by rw [gV_cats, gNfw]; omega) hdg (fun H1 locs1 g1 _ g3 => ?_)
  have g1 := gP_set (σ' := (Kd, I, gCopy L a b sp.toNatClampNeg dp.toNatClampNeg n.toNatClampNeg, R)) g1 rfl hq1 (by rw [gEt_13]; exact congrArg (fun f => (Sum.inl (ca 13, n1, Sum.inr (Sum.inl f)) : va_E)) (gCopy_s (f := L) (a := a) (b := b)).symm) (fun x q' hb => gEt_congr (σ := (Kd, I, L, R)) (σ' := (Kd, I, gCopy L a b sp.toNatClampNeg dp.toNatClampNeg n.toNatClampNeg, R)) rfl (gCopy_o hb) rfl q')
  exact kk p e R0 s m args below meth c H1 locs1 cells slots base sa ca D lsM Qm hC ⟨hR.1, g1⟩ hsz g3 hc hs hl hret
theorem inv_mmax {k pc nx : Nat} (h : gF k pc = some (83, nx, 0, 0, 0, 0)) : ∃ idx, decode (gCode k) pc = .ok (.invokestatic idx, 3) ∧ nx = pc + 3 ∧ ∃ q, (gOwn k, idx, 83, q) ∈ gMA := by
  obtain ⟨i, len, hd, hc⟩ := gF_ok h
  cases i <;> simp [gCk] at hc
  case invokestatic idx =>
    obtain ⟨⟨rfl, rfl⟩, h5⟩ := hc
    exact ⟨idx, hd, rfl, gIs_spec h5⟩
  all_goals first | omega | (rename_i c0 off; have := gCc_le c0; omega) | (have := gKd_le (gTy 0 0); omega)
theorem snd_mmax : r_mmax (gMk l X) := by
  intro d k pc nx mc ms ls st Kd I L R Q x y hF hcat kk
  intro p e R0 s m args below meth c H locs cells slots base sa ca D lsM Qm hC hR hsz hS hc hs hl hret
  obtain ⟨idx, hdg, rfl, q0, hq⟩ := inv_mmax hF
  have a1 := hC.2.2.2.2.2.2.2.1
  have a2 := hC.2.2.2.2.2.2.2.2.1
  exact va_mmax hC.1 hC.2.1 (hC.2.2.1.trans hl.1.symm) hC.2.2.2.1 (hC.2.2.2.2.1 _ (gw_of (List.mem_of_getElem? (gMA_ok _ hq)) rfl)) (hC.2.2.2.2.1 _ (gw_of gM1_max rfl)) (hC.2.2.2.2.1 _ (gw_of gM3 rfl)) (hC.2.2.2.2.1 _ (gw_of gM2_max rfl)) (by omega) (by rw [gV_cats]; omega) (by omega) (by omega) hdg (kk p e R0 s m args below meth c H locs cells slots base sa ca D lsM Qm hC hR hsz hS hc hs hl hret)
theorem inv_mmin {k pc nx : Nat} (h : gF k pc = some (84, nx, 0, 0, 0, 0)) : ∃ idx, decode (gCode k) pc = .ok (.invokestatic idx, 3) ∧ nx = pc + 3 ∧ ∃ q, (gOwn k, idx, 84, q) ∈ gMA := by
  obtain ⟨i, len, hd, hc⟩ := gF_ok h
  cases i <;> simp [gCk] at hc
  case invokestatic idx =>
    obtain ⟨⟨rfl, rfl⟩, h5⟩ := hc
    exact ⟨idx, hd, rfl, gIs_spec h5⟩
  all_goals first | omega | (rename_i c0 off; have := gCc_le c0; omega) | (have := gKd_le (gTy 0 0); omega)
theorem snd_mmin : r_mmin (gMk l X) := by
  intro d k pc nx mc ms ls st Kd I L R Q x y hF hcat kk
  intro p e R0 s m args below meth c H locs cells slots base sa ca D lsM Qm hC hR hsz hS hc hs hl hret
  obtain ⟨idx, hdg, rfl, q0, hq⟩ := inv_mmin hF
  have a1 := hC.2.2.2.2.2.2.2.1
  have a2 := hC.2.2.2.2.2.2.2.2.1
  exact va_mmin hC.1 hC.2.1 (hC.2.2.1.trans hl.1.symm) hC.2.2.2.1 (hC.2.2.2.2.1 _ (gw_of (List.mem_of_getElem? (gMA_ok _ hq)) rfl)) (hC.2.2.2.2.1 _ (gw_of gM1_min rfl)) (hC.2.2.2.2.1 _ (gw_of gM3 rfl)) (hC.2.2.2.2.1 _ (gw_of gM2_min rfl)) (by omega) (by rw [gV_cats]; omega) (by omega) (by omega) hdg (kk p e R0 s m args below meth c H locs cells slots base sa ca D lsM Qm hC hR hsz hS hc hs hl hret)
theorem inv_mabs {k pc nx : Nat} (h : gF k pc = some (85, nx, 0, 0, 0, 0)) : ∃ idx, decode (gCode k) pc = .ok (.invokestatic idx, 3) ∧ nx = pc + 3 ∧ ∃ q, (gOwn k, idx, 85, q) ∈ gMA := by
  obtain ⟨i, len, hd, hc⟩ := gF_ok h
  cases i <;> simp [gCk] at hc
  case invokestatic idx =>
    obtain ⟨⟨rfl, rfl⟩, h5⟩ := hc
    exact ⟨idx, hd, rfl, gIs_spec h5⟩
  all_goals first | omega | (rename_i c0 off; have := gCc_le c0; omega) | (have := gKd_le (gTy 0 0); omega)
theorem snd_mabs : r_mabs (gMk l X) := by
  intro d k pc nx mc ms ls st Kd I L R Q x hF hcat kk
  intro p e R0 s m args below meth c H locs cells slots base sa ca D lsM Qm hC hR hsz hS hc hs hl hret
  obtain ⟨idx, hdg, rfl, q0, hq⟩ := inv_mabs hF
  have a1 := hC.2.2.2.2.2.2.2.1
  have a2 := hC.2.2.2.2.2.2.2.2.1
  exact va_mabs hC.1 hC.2.1 (hC.2.2.1.trans hl.1.symm) hC.2.2.2.1 (hC.2.2.2.2.1 _ (gw_of (List.mem_of_getElem? (gMA_ok _ hq)) rfl)) (hC.2.2.2.2.1 _ (gw_of gM1_abs rfl)) (hC.2.2.2.2.1 _ (gw_of gM3 rfl)) (hC.2.2.2.2.1 _ (gw_of gM2_abs rfl)) (by omega) (by rw [gV_cats]; omega) (by omega) (by omega) hdg (kk p e R0 s m args below meth c H locs cells slots base sa ca D lsM Qm hC hR hsz hS hc hs hl hret)
theorem gOfs {ps : List (Int × Int)} {L : List (Int32 × Nat)} {pc : Int} {d : Int} {nx : Nat} {x : Int32} (hd : pc + d = (nx : Int)) (hm : ps.map (fun q => (Int32.ofInt q.1, pc + q.2)) = L.map (fun q => (q.1, (q.2 : Int)))) (hok : ∀ q ∈ ps, (Int32.ofInt q.1).toInt = q.1) :
    (∃ q ∈ L, x = q.1 ∧ pc + Op.lookupswitch.offset ps d x.toInt = (q.2 : Int)) ∨ ((∀ q ∈ L, ¬ x = q.1) ∧ pc + Op.lookupswitch.offset ps d x.toInt = (nx : Int)) := by
  induction ps generalizing L with
  | nil =>
    right
    cases L with
    | nil => exact ⟨fun q h => (by cases h), hd⟩
    | cons q L => simp at hm
  | cons q ps ih =>
    cases L with
    | nil => simp at hm
    | cons r L =>
      obtain ⟨a, o⟩ := q
      obtain ⟨b, t⟩ := r
      simp only [List.map_cons, List.cons.injEq, Prod.mk.injEq] at hm
      obtain ⟨⟨e1, e2⟩, e3⟩ := hm
      have h0 := hok (a, o) List.mem_cons_self
      rw [Op.lookupswitch.offset_cons]
      by_cases hx : x = b
      · left
        refine ⟨(b, t), List.mem_cons_self, hx, ?_⟩
        have : a = x.toInt := by rw [hx, ← e1]; exact h0.symm
        rw [if_pos this]
        exact e2
      · have hne : ¬ a = x.toInt := by
          intro h
          apply hx
          rw [← e1]
          apply Int32.toInt_inj.mp
          rw [h0]
          exact h.symm
        rw [if_neg hne]
        rcases ih e3 (fun q hq => hok q (List.mem_cons_of_mem _ hq)) with ⟨q, hq, h1, h2⟩ | ⟨h1, h2⟩
        · exact Or.inl ⟨q, List.mem_cons_of_mem _ hq, h1, h2⟩
        · refine Or.inr ⟨fun q hq => ?_, h2⟩
          rcases List.mem_cons.mp hq with rfl | hq
          · exact hx
          · exact h1 q hq
theorem snd_sw : r_sw (gMk l X) := by
  intro d k pc nx mc ms ls st Kd I L R Q x hF kt kf
  intro p e R0 s m args below meth c H locs cells slots base sa ca D lsM Qm hC hR hsz hS hc hs hl hret
  obtain ⟨i, len, hdg, hck⟩ := gF_ok hF
  cases i <;> simp only [gCk, Bool.and_eq_true, Bool.or_eq_true, decide_eq_true_eq, Prod.mk.injEq] at hck
  case lookupswitch d0 ps =>
    obtain ⟨-, hd, -, hp, hm, hok⟩ := hck
    have hok' : ∀ q ∈ ps.toList, (Int32.ofInt q.1).toInt = q.1 := fun q hq => by
      have := List.all_eq_true.mp hok q hq
      exact of_decide_eq_true this
    rcases gOfs (x := x) hd hm hok' with ⟨q, hq, h1, h2⟩ | ⟨h1, h2⟩
    · exact lv_lookup hC.1 hC.2.1 hdg hp rfl h2 (kt q hq h1 p e R0 s m args below meth c H locs cells slots base sa ca D lsM Qm hC hR hsz hS hc hs hl hret)
    · exact lv_lookup hC.1 hC.2.1 hdg hp rfl h2 (kf h1 p e R0 s m args below meth c H locs cells slots base sa ca D lsM Qm hC hR hsz hS hc hs hl hret)
  case tableswitch d0 lo hi offs =>
    obtain ⟨-, hd, -, hlo, hhi, hsiz, hm, hok⟩ := hck
    have hel : ∀ j : Nat, j < offs.size → ∃ q, (gSw k pc)[j]? = some q ∧ q.1 = Int32.ofInt (lo + (j : Int)) ∧ (pc : Int) + offs.getD j 0 = (q.2 : Int) := by
      intro j hj
      have h1 := congrArg (fun L => L[j]?) hm
      simp only [List.getElem?_map, List.getElem?_range hj, Option.map_some] at h1
      cases hq : (gSw k pc)[j]? with
      | none => rw [hq] at h1; cases h1
      | some q =>
        rw [hq] at h1
        simp only [Option.map_some, Option.some.injEq, Prod.mk.injEq] at h1
        exact ⟨q, rfl, h1.1.symm, h1.2⟩
    have htI : ∀ j : Nat, j < offs.size → (Int32.ofInt (lo + (j : Int))).toInt = lo + (j : Int) := fun j hj => of_decide_eq_true (List.all_eq_true.mp hok j (List.mem_range.mpr hj))
    have hlenS : (gSw k pc).length = offs.size := by
      have h1 := congrArg List.length hm
      simpa using h1.symm
    by_cases h1 : x.toInt < lo ∨ hi < x.toInt
    · refine lv_tableOut hC.1 hC.2.1 hdg h1 hd (kf (fun q hq hxq => ?_) p e R0 s m args below meth c H locs cells slots base sa ca D lsM Qm hC hR hsz hS hc hs hl hret)
      obtain ⟨j, hj⟩ := List.getElem?_of_mem hq
      have hj1 : j < offs.size := by rw [← hlenS]; exact (List.getElem?_eq_some_iff.mp hj).1
      obtain ⟨q', e1, e2, e3⟩ := hel j hj1
      have e4 : q' = q := Option.some.inj (e1.symm.trans hj)
      have e5 := htI j hj1
      rw [← e2, e4, ← hxq] at e5
      omega
    · have hj1 : (x.toInt - lo).toNat < offs.size := by omega
      obtain ⟨q', e1, e2, e3⟩ := hel _ hj1
      have e5 := htI _ hj1
      have hxq : x = q'.1 := by
        rw [e2]
        apply Int32.toInt_inj.mp
        rw [e5]
        omega
      have hof : offs[(x.toInt - lo).toNat]? = some (offs.getD (x.toInt - lo).toNat 0) := by
        rw [Array.getD_eq_getD_getElem?, Array.getElem?_eq_getElem hj1]
        rfl
      exact lv_tableIn hC.1 hC.2.1 hdg (fun h => h1 (Or.inl h)) (fun h => h1 (Or.inr h)) hof e3 (kt q' (List.mem_of_getElem? e1) hxq p e R0 s m args below meth c H locs cells slots base sa ca D lsM Qm hC hR hsz hS hc hs hl hret)
  all_goals first
    | (exfalso; simp only [Bool.false_eq_true] at hck; done)
    | (exfalso; omega)
    | (exfalso; rename_i c0 off; have := gCc_le c0; omega)
    | (exfalso; have := gKd_le (gTy 0 0); omega)
theorem gSound : gClosed X (gMk l X) := ⟨snd_pushI, snd_pushL, snd_iload, snd_lload, snd_aload, snd_istore, snd_lstore, snd_astore, snd_iinc, snd_iadd, snd_isub, snd_imul, snd_iand, snd_ior, snd_ixor, snd_ishl, snd_ishr, snd_iushr, snd_idiv, snd_irem, snd_ineg, snd_ladd, snd_lsub, snd_lmul, snd_land, snd_lor, snd_ldiv, snd_lshl, snd_i2l, snd_l2i, snd_i2b, snd_i2s, snd_lcmp, snd_dup, snd_pop, snd_dup2, snd_goto, snd_if_eq, snd_if_ne, snd_if_lt, snd_if_ge, snd_if_gt, snd_if_le, snd_icmp_eq, snd_icmp_ne, snd_icmp_lt, snd_icmp_ge, snd_icmp_gt, snd_icmp_le, snd_getI, snd_getL, snd_getR, snd_putI, snd_putL, snd_putR, snd_putZ, snd_getS, snd_iald, snd_sald, snd_lald, snd_aald, snd_bald, snd_hald, snd_iast, snd_last, snd_bast, snd_hast, snd_aast, snd_alen, snd_new, snd_newA, snd_newR, snd_callV, snd_callS, snd_callI, snd_objI, snd_copyI, snd_copyL, snd_iret, snd_lret, snd_vret, snd_sw, snd_mmax, snd_mmin, snd_mabs, snd_pop2⟩
/-- what the small machine says, the machine does -/
theorem gRun {d k pc mc ms : Nat} {ls : List (Option Value)} {st : List Value} {σ : gM} {Q : gQ} (h : gW X d k pc mc ms ls st σ Q) : gMk l X d k pc mc ms ls st σ Q := h _ gSound
end
