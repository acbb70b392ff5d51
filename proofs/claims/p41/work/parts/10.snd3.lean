section
variable {l : Launch} {X : Nat × (Nat → Int32)}
/-- the heap is just as large as the memory says -/
theorem gSized {p : Program} {e : Env} {R0 : Room} {s : State} {m : MethodId} {args : Array Value} {below : List Frame} {meth : Method} {c : Code} {H : Heap} {locs : List Loc} {cells slots base : Nat} {sa : Nat → Nat} {ca : Nat → ClassId} {D : va_G} {Qm : State → Prop} {σ : gM} {g : JFrame}
    (hR : gRep base sa ca D σ H) (hsz : base + σ.1.length = s.heap.size + cells) (hS : va_S (gA base) s.heap H locs) (hb : base ≤ s.heap.size) (kk : H.size = base + σ.1.length → W p l e R0 s m args below meth c H locs cells slots Qm g) : W p l e R0 s m args below meth c H locs cells slots Qm g := by
  intro T hT Xs
  refine kk ?_ T hT Xs
  have h1 := Xs.heapSize
  rw [hT] at h1
  have h2 := hS.1
  by_cases h0 : σ.1.length = 0
  · omega
  · have h3 : σ.1.length - 1 < σ.1.length := by omega
    have h4 := (hR.2 _ _ (gWo_at (base := base) (ad := gAd base sa) (ca := ca) (List.getElem?_eq_getElem h3))).lt
    have h4 : base + (σ.1.length - 1) < H.size := h4
    omega
theorem gClr_o {α : Type} {f : Nat → Nat → α} {a : Nat} {v : α} {b : Nat} (h : b ≠ a) : gClr f a v b = f b := by funext j; simp [gClr, h]
theorem gClr_s {α : Type} {f : Nat → Nat → α} {a : Nat} {v : α} : gClr f a v a = fun _ => v := by funext j; simp [gClr]
/-- behind a making: where the new cell lies -/
theorem gMade {p : Program} {e : Env} {R0 : Room} {s : State} {m : MethodId} {args : Array Value} {below : List Frame} {meth : Method} {c : Code} {H1 : Heap} {locs : List Loc} {cells slots base : Nat} {sa : Nat → Nat} {ca : Nat → ClassId} {D : va_G} {Qm : State → Prop} {σ σ' : gM} {q : Nat} {t : Nat × Nat} {E : va_E} {lsM : Array Slot} {pc : Nat} {rest : List Value} {m' : MethodId}
    (hlen : σ.1.length < 900) (hsz : base + σ.1.length = s.heap.size + cells) (hP : va_P D vwCl (gWo base (gAd base sa) ca σ ++ [(q, E)]) H1) (hD : va_D (gA base) (gWo base (gAd base sa) ca σ ++ [(q, E)])) (h1 : σ'.1 = σ.1 ++ [t]) (hE : E = gEt (gAd base sa) ca σ' σ.1.length t) (ho : ∀ (b : Nat) (q' : Nat × Nat), b < σ.1.length → gEt (gAd base sa) ca σ' b q' = gEt (gAd base sa) ca σ b q')
    (kk : gRep base sa ca D σ' H1 → W p l e R0 s m args below meth c H1 locs (cells + 1) slots Qm (F0 m' pc lsM (.ref (gAd base sa σ.1.length) :: rest))) : W p l e R0 s m args below meth c H1 locs (cells + 1) slots Qm (F0 m' pc lsM (.ref q :: rest)) := by
  intro T hT Xs
  have hq : q = base + σ.1.length := by
    have a1 := Xs.heapSize
    rw [hT] at a1
    have hg : (gWo base (gAd base sa) ca σ ++ [(q, E)])[σ.1.length]? = some (q, E) := by
      rw [List.getElem?_append_right (by rw [gWo_len]; omega), gWo_len, Nat.sub_self]
      rfl
    have a2 : q < H1.size := (hP _ _ hg).lt
    have a3 : base ≤ q := hD.2 _ _ hg
    by_cases hlt : q < base + σ.1.length
    · exfalso
      have hj : q - base < σ.1.length := by omega
      have hg2 : (gWo base (gAd base sa) ca σ ++ [(q, E)])[q - base]? = some (base + (q - base), gEt (gAd base sa) ca σ (q - base) σ.1[q - base]) := by
        rw [List.getElem?_append_left (by rw [gWo_len]; exact hj)]
        exact gWo_at (List.getElem?_eq_getElem hj)
      have := hD.1 _ _ _ _ hg hg2 (show q = base + (q - base) by omega)
      omega
    · omega
  subst hq
  rw [gWo_push (σ' := σ') h1 hE ho] at hP
  have := kk ⟨by rw [h1]; simp; omega, hP⟩
  rw [gAd_lt (by omega)] at this
  exact this T hT Xs
theorem inv_new {k pc nx ci f : Nat} (h : gF k pc = some (70, nx, ci, f, 0, 0)) : ∃ idx, decode (gCode k) pc = .ok (.new idx, 3) ∧ nx = pc + 3 ∧ ci < 12 ∧ f = (gCl ci).2.2 ∧ ∃ q, (gOwn k, idx, ci, q) ∈ gNA2 := by
  obtain ⟨i, len, hd, hc⟩ := gF_ok h
  cases i <;> simp [gCk] at hc
  case new idx =>
    obtain ⟨⟨rfl, h1, rfl, h2⟩, h5⟩ := hc
    exact ⟨idx, hd, rfl, h1, h2, gIs_spec h5⟩
  all_goals first | omega | (rename_i c0 off; have := gCc_le c0; omega) | (have := gKd_le (gTy ci f); omega)
theorem gDef {ad : Nat → Nat} {σ : gM} {a t f : Nat} (h1 : σ.2.1 a f = 0) (h2 : σ.2.2.1 a f = 0) (h3 : σ.2.2.2 a f = none) (ht : (match gTy t f with | .int => true | .boolean => true | .long => true | .object _ => true | .array _ => true | _ => false) = true) : defaultValue (gTy t f) = gFv ad σ a t f := by
  unfold gFv
  cases h : gTy t f <;> rw [h] at ht <;> first | (rw [h1]; rfl) | (rw [h2]; rfl) | (rw [h3]; rfl) | (exact absurd ht (by decide))
theorem gTy_all : ∀ c, c < 12 → ∀ f, f < (gCl c).2.2 → (match gTy c f with | .int => true | .boolean => true | .long => true | .object _ => true | .array _ => true | _ => false) = true := by decide +kernel
theorem snd_new : r_new (gMk l X) := by
  intro d k pc nx mc ms ls st Kd I L R Q ci f hF hn kk
  intro p e R0 s m args below meth c H locs cells slots base sa ca D lsM Qm hC hR hsz hS hc hs hl hret
  obtain ⟨idx, hdg, rfl, h12, rfl, q0, hq0⟩ := inv_new hF
  have hcl := gNA2_ok _ hq0
  have hA : ∀ q, s.heap.size ≤ q → gA base q := fun q h => Nat.le_trans hC.2.2.2.2.2.2.2.2.2.2 h
  refine va_new hC.1 hC.2.1 hC.2.2.2.2.1 (gLay_gw h12) (gTy ci) (gTy_ok ci h12) hC.2.2.2.1 (hC.2.2.2.2.1 _ (gw_of (List.mem_of_getElem? hcl.1) rfl)) (hC.2.2.2.2.1 _ (gw_of (gInst_cl ci h12) rfl)) (hC.2.2.2.2.1 _ (gw_of (gIni_cl ci h12) rfl)) hC.2.2.2.2.2.1 hR.2 gWo_D hS hA (gCl_at ci h12) (fs := (List.range (gNf ci)).map (gFv (gAd base sa) (Kd ++ [(ci, 0)], gClr I Kd.length 0, gClr L Kd.length 0, gClr R Kd.length none) Kd.length ci)) (fun j hj => ?_) (by omega) (by omega) hdg (fun q H1 g1 g2 g3 => ?_)
  · show _ = List.getD _ _ _
    rw [List.getD_eq_getElem?_getD, List.getElem?_map, List.getElem?_range (show j < gNf ci from hj)]
    exact gDef (by show gClr I _ _ _ _ = _; rw [gClr_s]) (by show gClr L _ _ _ _ = _; rw [gClr_s]) (by show gClr R _ _ _ _ = _; rw [gClr_s]) (gTy_all ci h12 j hj)
  · refine gMade (σ := (Kd, I, L, R)) (σ' := (Kd ++ [(ci, 0)], gClr I Kd.length 0, gClr L Kd.length 0, gClr R Kd.length none)) (t := (ci, 0)) hn hsz g1 g2 rfl (by rw [gEt_obj h12]) (fun b q' hb => gEt_congr (σ := (Kd, I, L, R)) (σ' := (Kd ++ [(ci, 0)], gClr I Kd.length 0, gClr L Kd.length 0, gClr R Kd.length none)) (gClr_o (by have : b < Kd.length := hb; omega)) (gClr_o (by have : b < Kd.length := hb; omega)) (gClr_o (by have : b < Kd.length := hb; omega)) q') fun hR1 => ?_
    refine kk p e R0 s m args below meth c H1 locs (cells + 1) (slots + (gCl ci).2.2) base sa ca D lsM Qm hC hR1 ?_ g3 (by omega) (by omega) hl (fun r σ' H' locs' lsM' pc' z1 z2 z3 z4 z5 => ?_)
    · show base + (Kd ++ [(ci, 0)]).length = _
      have hsz : base + Kd.length = s.heap.size + cells := hsz
      simp
      omega
    · have := hret r σ' H' locs' lsM' pc' z1 z2 (by omega) z4 z5
      rw [show cells + 1 + mc = cells + (mc + 1) by omega, show slots + (gCl ci).2.2 + ms = slots + (ms + (gCl ci).2.2) by omega]
      exact this
theorem inv_newA {k pc nx t : Nat} (h : gF k pc = some (71, nx, t, 0, 0, 0)) : ∃ a : ArrayType, decode (gCode k) pc = .ok (.newarray a, 2) ∧ nx = pc + 2 ∧ 12 ≤ t ∧ t = gAt a := by
  obtain ⟨i, len, hd, hc⟩ := gF_ok h
  cases i <;> simp [gCk] at hc
  case newarray a =>
    obtain ⟨rfl, h1, rfl, h2⟩ := hc
    exact ⟨a, hd, rfl, by omega, h2⟩
  all_goals first | omega | (rename_i c0 off; have := gCc_le c0; omega) | (have := gKd_le (gTy t 0); omega)
theorem gK_at {base : Nat} {ca : Nat → ClassId} {D : va_G} {s : State} {cA : ClassId} {ty : FieldType} {j t : Nat} (hK : va_K D vwCl (gTys ca) s) (hj : (gTys ca)[j]? = some (ca t, ty)) (hK1 : va_K D vwCl (gTys ca ++ [(cA, ty)]) s) (hp : ∀ C, ty ≠ .object C) : cA = ca t := by
  have h1 := (hK.2 j _ hj).2
  have h2 := (hK1.2 5 (cA, ty) (by rfl)).2
  unfold va_RA at h1 h2
  cases ty with
  | object C => exact absurd rfl (hp C)
  | _ => exact Option.some.inj (h2.symm.trans h1)
theorem gK_obj {ca : Nat → ClassId} {D : va_G} {s : State} {cA : ClassId} (hK : va_K D vwCl (gTys ca) s) (hK1 : va_K D vwCl (gTys ca ++ [(cA, .object RX7)]) s) : cA = ca 16 := by
  obtain ⟨_, _, -, -, -, h1⟩ := (hK.2 4 _ rfl).2
  obtain ⟨_, _, -, -, -, h2⟩ := (hK1.2 5 (cA, .object RX7) (by rfl)).2
  exact Option.some.inj (h2.symm.trans h1)
theorem snd_newA : r_newA (gMk l X) := by
  intro d k pc nx mc ms ls st Kd I L R Q t N n hF hn hneg hN hbig kk
  intro p e R0 s m args below meth c H locs cells slots base sa ca D lsM Qm hC hR hsz hS hc hs hl hret
  obtain ⟨a, hdg, rfl, h12, rfl⟩ := inv_newA hF
  have hA : ∀ q, s.heap.size ≤ q → gA base q := fun q h => Nat.le_trans hC.2.2.2.2.2.2.2.2.2.2 h
  have fin : ∀ (H1 : Heap), gRep base sa ca D (Kd ++ [(gAt a, N)], gClr I Kd.length 0, gClr L Kd.length 0, gClr R Kd.length none) H1 → va_S (gA base) s.heap H1 locs → W p l e R0 s m args below meth c H1 locs (cells + 1) (slots + N) Qm (F0 m (pc + 2) lsM (.ref (gAd base sa Kd.length) :: st.map (gV (gAd base sa)))) := by
    intro H1 hR1 g3
    refine kk p e R0 s m args below meth c H1 locs (cells + 1) (slots + N) base sa ca D lsM Qm hC hR1 ?_ g3 (by omega) (by omega) hl (fun r σ' H' locs' lsM' pc' z1 z2 z3 z4 z5 => ?_)
    · show base + (Kd ++ [(gAt a, N)]).length = _
      have hsz : base + Kd.length = s.heap.size + cells := hsz
      simp
      omega
    · have := hret r σ' H' locs' lsM' pc' z1 z2 (by omega) z4 z5
      rw [show cells + 1 + mc = cells + (mc + 1) by omega, show slots + N + ms = slots + (ms + N) by omega]
      exact this
  have ho : ∀ (b : Nat) (q' : Nat × Nat), b < Kd.length → gEt (gAd base sa) ca (Kd ++ [(gAt a, N)], gClr I Kd.length 0, gClr L Kd.length 0, gClr R Kd.length none) b q' = gEt (gAd base sa) ca (Kd, I, L, R) b q' := fun b q' hb => gEt_congr (σ := (Kd, I, L, R)) (σ' := (Kd ++ [(gAt a, N)], gClr I Kd.length 0, gClr L Kd.length 0, gClr R Kd.length none)) (gClr_o (by omega)) (gClr_o (by omega)) (gClr_o (by omega)) q'
  cases a <;> simp [gAt] at h12
  case int =>
    refine va_newa (atype := .int) (ty := .int) (a0 := (N, .inl (fun _ => 0))) hC.1 hC.2.1 (hC.2.2.2.2.1 _ (gw_of gAr_int rfl)) rfl hC.2.2.2.2.2.1 hR.2 gWo_D hS hA (fun _ => rfl) hneg hN (by have : componentBytes .int = 4 := rfl; rw [this]; omega) (by omega) (by omega) hdg (fun q cA H1 gk g1 g2 g3 => ?_)
    have hcA := gK_at (base := base) (j := 0) (t := 12) hC.2.2.2.2.2.1 rfl gk (fun C h => by cases h)
    subst hcA
    exact gMade (σ := (Kd, I, L, R)) (σ' := (Kd ++ [(gAt .int, N)], gClr I Kd.length 0, gClr L Kd.length 0, gClr R Kd.length none)) (t := (12, N)) hn hsz g1 g2 rfl (by rw [gEt_12]; exact congrArg (fun f => (Sum.inl (ca 12, N, Sum.inl f) : va_E)) (gClr_s (f := I) (a := Kd.length)).symm) ho fun hR1 => fin H1 hR1 g3
  case long =>
    refine va_newa (atype := .long) (ty := .long) (a0 := (N, .inr (.inl (fun _ => 0)))) hC.1 hC.2.1 (hC.2.2.2.2.1 _ (gw_of gAr_long rfl)) rfl hC.2.2.2.2.2.1 hR.2 gWo_D hS hA (fun _ => rfl) hneg hN (by have : componentBytes .long = 8 := rfl; rw [this]; omega) (by omega) (by omega) hdg (fun q cA H1 gk g1 g2 g3 => ?_)
    have hcA := gK_at (base := base) (j := 1) (t := 13) hC.2.2.2.2.2.1 rfl gk (fun C h => by cases h)
    subst hcA
    exact gMade (σ := (Kd, I, L, R)) (σ' := (Kd ++ [(gAt .long, N)], gClr I Kd.length 0, gClr L Kd.length 0, gClr R Kd.length none)) (t := (13, N)) hn hsz g1 g2 rfl (by rw [gEt_13]; exact congrArg (fun f => (Sum.inl (ca 13, N, Sum.inr (Sum.inl f)) : va_E)) (gClr_s (f := L) (a := Kd.length)).symm) ho fun hR1 => fin H1 hR1 g3
  case byte =>
    refine va_newa (atype := .byte) (ty := .byte) (a0 := (N, .inl (fun _ => 0))) hC.1 hC.2.1 (hC.2.2.2.2.1 _ (gw_of gAr_byte rfl)) rfl hC.2.2.2.2.2.1 hR.2 gWo_D hS hA (fun _ => rfl) hneg hN (by have : componentBytes .byte = 1 := rfl; rw [this]; omega) (by omega) (by omega) hdg (fun q cA H1 gk g1 g2 g3 => ?_)
    have hcA := gK_at (base := base) (j := 2) (t := 14) hC.2.2.2.2.2.1 rfl gk (fun C h => by cases h)
    subst hcA
    exact gMade (σ := (Kd, I, L, R)) (σ' := (Kd ++ [(gAt .byte, N)], gClr I Kd.length 0, gClr L Kd.length 0, gClr R Kd.length none)) (t := (14, N)) hn hsz g1 g2 rfl (by rw [gEt_14]; exact congrArg (fun f => (Sum.inl (ca 14, N, Sum.inl f) : va_E)) (gClr_s (f := I) (a := Kd.length)).symm) ho fun hR1 => fin H1 hR1 g3
  case short =>
    refine va_newa (atype := .short) (ty := .short) (a0 := (N, .inl (fun _ => 0))) hC.1 hC.2.1 (hC.2.2.2.2.1 _ (gw_of gAr_short rfl)) rfl hC.2.2.2.2.2.1 hR.2 gWo_D hS hA (fun _ => rfl) hneg hN (by have : componentBytes .short = 2 := rfl; rw [this]; omega) (by omega) (by omega) hdg (fun q cA H1 gk g1 g2 g3 => ?_)
    have hcA := gK_at (base := base) (j := 3) (t := 15) hC.2.2.2.2.2.1 rfl gk (fun C h => by cases h)
    subst hcA
    exact gMade (σ := (Kd, I, L, R)) (σ' := (Kd ++ [(gAt .short, N)], gClr I Kd.length 0, gClr L Kd.length 0, gClr R Kd.length none)) (t := (15, N)) hn hsz g1 g2 rfl (by rw [gEt_15]; exact congrArg (fun f => (Sum.inl (ca 15, N, Sum.inl f) : va_E)) (gClr_s (f := I) (a := Kd.length)).symm) ho fun hR1 => fin H1 hR1 g3
theorem inv_newR {k pc nx : Nat} (h : gF k pc = some (72, nx, 0, 0, 0, 0)) : ∃ idx, decode (gCode k) pc = .ok (.anewarray idx, 3) ∧ nx = pc + 3 ∧ ∃ q, (gOwn k, idx, 7, q) ∈ gNA2 := by
  obtain ⟨i, len, hd, hc⟩ := gF_ok h
  cases i <;> simp [gCk] at hc
  case anewarray idx =>
    obtain ⟨⟨rfl, rfl⟩, h5⟩ := hc
    exact ⟨idx, hd, rfl, gIs_spec h5⟩
  all_goals first | omega | (rename_i c0 off; have := gCc_le c0; omega) | (have := gKd_le (gTy 0 0); omega)
theorem snd_newR : r_newR (gMk l X) := by
  intro d k pc nx mc ms ls st Kd I L R Q N n hF hn hneg hN hbig kk
  intro p e R0 s m args below meth c H locs cells slots base sa ca D lsM Qm hC hR hsz hS hc hs hl hret
  obtain ⟨idx, hdg, rfl, q0, hq0⟩ := inv_newR hF
  have hcl := gNA2_ok _ hq0
  have hA : ∀ q, s.heap.size ≤ q → gA base q := fun q h => Nat.le_trans hC.2.2.2.2.2.2.2.2.2.2 h
  refine va_newq (C := RX7) hC.1 hC.2.1 hC.2.2.2.1 (hC.2.2.2.2.1 _ (gw_of (List.mem_of_getElem? hcl.1) rfl)) hC.2.2.2.2.2.2.1.2.1 hC.2.2.2.2.2.1 hR.2 gWo_D hS hA hneg hN (by omega) (by omega) (by omega) hdg (fun q cA H1 gk g1 g2 g3 => ?_)
  have hcA := gK_obj hC.2.2.2.2.2.1 gk
  subst hcA
  refine gMade (σ := (Kd, I, L, R)) (σ' := (Kd ++ [(16, N)], gClr I Kd.length 0, gClr L Kd.length 0, gClr R Kd.length none)) (t := (16, N)) hn hsz g1 g2 rfl (by rw [gEt_16]; show _ = Sum.inl (_, _, Sum.inr (Sum.inr (Sum.inr (Sum.inr (fun j => (gClr R Kd.length none Kd.length j).map _))))); rw [gClr_s]; rfl) (fun b q' hb => gEt_congr (σ := (Kd, I, L, R)) (σ' := (Kd ++ [(16, N)], gClr I Kd.length 0, gClr L Kd.length 0, gClr R Kd.length none)) (gClr_o (by have : b < Kd.length := hb; omega)) (gClr_o (by have : b < Kd.length := hb; omega)) (gClr_o (by have : b < Kd.length := hb; omega)) q') fun hR1 => ?_
  refine kk p e R0 s m args below meth c H1 locs (cells + 1) (slots + N) base sa ca D lsM Qm hC hR1 ?_ g3 (by omega) (by omega) hl (fun r σ' H' locs' lsM' pc' z1 z2 z3 z4 z5 => ?_)
  · show base + (Kd ++ [(16, N)]).length = _
    have hsz : base + Kd.length = s.heap.size + cells := hsz
    simp
    omega
  · have := hret r σ' H' locs' lsM' pc' z1 z2 (by omega) z4 z5
    rw [show cells + 1 + mc = cells + (mc + 1) by omega, show slots + N + ms = slots + (ms + N) by omega]
    exact this
end
