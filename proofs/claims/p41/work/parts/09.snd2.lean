section
variable {l : Launch} {X : Nat × (Nat → Int32)}
theorem gAd_lt {base : Nat} {sa : Nat → Nat} {a : Nat} (h : a < 1000) : gAd base sa a = base + a := by simp [gAd, h]
theorem gAd_ge {base : Nat} {sa : Nat → Nat} (j : Nat) : gAd base sa (1000 + j) = sa j := by
  unfold gAd
  rw [if_neg (by omega), Nat.add_sub_cancel_left]
theorem gRep_lt {base : Nat} {sa : Nat → Nat} {ca : Nat → ClassId} {D : va_G} {σ : gM} {H : Heap} (h : gRep base sa ca D σ H) {a : Nat} {q : Nat × Nat} (hq : σ.1[a]? = some q) : a < 1000 := by
  have h1 := (List.getElem?_eq_some_iff.mp hq).1
  have h2 := h.1
  omega
theorem gEt_obj {ad : Nat → Nat} {ca : Nat → ClassId} {σ : gM} {a ci n : Nat} (h : ci < 12) : gEt ad ca σ a (ci, n) = .inr (ci, (List.range (gNf ci)).map (gFv ad σ a ci)) := by simp [gEt, h]
theorem gEt_12 {ad : Nat → Nat} {ca : Nat → ClassId} {σ : gM} {a n : Nat} : gEt ad ca σ a (12, n) = .inl (ca 12, n, .inl (σ.2.1 a)) := by simp [gEt]
theorem gEt_14 {ad : Nat → Nat} {ca : Nat → ClassId} {σ : gM} {a n : Nat} : gEt ad ca σ a (14, n) = .inl (ca 14, n, .inl (σ.2.1 a)) := by simp [gEt]
theorem gEt_15 {ad : Nat → Nat} {ca : Nat → ClassId} {σ : gM} {a n : Nat} : gEt ad ca σ a (15, n) = .inl (ca 15, n, .inl (σ.2.1 a)) := by simp [gEt]
theorem gEt_13 {ad : Nat → Nat} {ca : Nat → ClassId} {σ : gM} {a n : Nat} : gEt ad ca σ a (13, n) = .inl (ca 13, n, .inr (.inl (σ.2.2.1 a))) := by simp [gEt]
theorem gEt_16 {ad : Nat → Nat} {ca : Nat → ClassId} {σ : gM} {a n : Nat} : gEt ad ca σ a (16, n) = .inl (ca 16, n, .inr (.inr (.inr (.inr (fun j => (σ.2.2.2 a j).map ad))))) := by simp [gEt]
theorem gU_o {α : Type} {f : Nat → Nat → α} {a k : Nat} {v : α} {b : Nat} (h : b ≠ a) : gU f a k v b = f b := by funext j; simp [gU, h]
theorem gU_s {f : Nat → Nat → Int32} {a k : Nat} {v : Int32} : gU f a k v a = upd (f a) k v := by funext j; simp [gU, upd]
theorem gU_sL {f : Nat → Nat → Int64} {a k : Nat} {v : Int64} : gU f a k v a = vp_updL (f a) k v := by funext j; simp [gU, vp_updL]
theorem gFv_congr {ad : Nat → Nat} {σ σ' : gM} {b : Nat} (hI : σ'.2.1 b = σ.2.1 b) (hL : σ'.2.2.1 b = σ.2.2.1 b) (hR : σ'.2.2.2 b = σ.2.2.2 b) (t f : Nat) : gFv ad σ' b t f = gFv ad σ b t f := by
  unfold gFv
  rw [hI, hL, hR]
theorem gEt_congr {ad : Nat → Nat} {ca : Nat → ClassId} {σ σ' : gM} {b : Nat} (hI : σ'.2.1 b = σ.2.1 b) (hL : σ'.2.2.1 b = σ.2.2.1 b) (hR : σ'.2.2.2 b = σ.2.2.2 b) (q : Nat × Nat) : gEt ad ca σ' b q = gEt ad ca σ b q := by
  unfold gEt
  rw [hI, hL, hR]
  have : gFv ad σ' b q.1 = gFv ad σ b q.1 := funext fun f => gFv_congr hI hL hR q.1 f
  rw [this]
/-- a field as the words name it -/
theorem gFA_gw {own idx ci f q : Nat} (hf : f < 100) (h : (own, idx, ci * 100 + f, q) ∈ gFA) : Cond.fieldLink (gCn own) idx (gCl ci).1 ((gCl ci).2.1 f).2.1 ((gCl ci).2.1 f).2.2.1 ∈ gGW := by
  have h1 := gFA_ok _ h
  dsimp only at h1
  rw [show (ci * 100 + f) / 100 = ci by omega, show (ci * 100 + f) % 100 = f by omega] at h1
  exact gw_of (List.mem_of_getElem? h1) rfl
theorem gFN_nw {own idx ci f q : Nat} (hf : f < 100) (h : (own, idx, ci * 100 + f, q) ∈ gFN) : Cond.fieldLinkNest (gCn own) idx (gCl ci).1 ((gCl ci).2.1 f).2.1 ((gCl ci).2.1 f).2.2.1 RX10 ∈ gNW := by
  have h1 : Cond.fieldLinkNest (gCn (own, idx, ci * 100 + f, q).1) (own, idx, ci * 100 + f, q).2.1 (gCl ((own, idx, ci * 100 + f, q).2.2.1 / 100)).1 ((gCl ((own, idx, ci * 100 + f, q).2.2.1 / 100)).2.1 ((own, idx, ci * 100 + f, q).2.2.1 % 100)).2.1 ((gCl ((own, idx, ci * 100 + f, q).2.2.1 / 100)).2.1 ((own, idx, ci * 100 + f, q).2.2.1 % 100)).2.2.1 RX10 ∈ gNW := List.mem_append_left _ (List.mem_map.mpr ⟨_, h, rfl⟩)
  dsimp only at h1
  rw [show (ci * 100 + f) / 100 = ci by omega, show (ci * 100 + f) % 100 = f by omega] at h1
  exact h1
theorem gLay_gw {ci : Nat} (h : ci < 12) : ∀ w ∈ u_ws (gCl ci).1 (gCl ci).2.1 (gCl ci).2.2, w ∈ gGW := fun w hw => gw_of (gLay_in ci h w hw) (by
  obtain ⟨j, -, rfl⟩ := List.mem_map.mp hw
  unfold u_lay
  split <;> rfl)
theorem gDc : ∀ c, c < 12 → ∀ f, f < (gCl c).2.2 → ((gCl c).2.1 f).1 = (gCl c).1 := by decide +kernel
def gLk (k idx ci f : Nat) : Prop := (∃ q, (gOwn k, idx, ci * 100 + f, q) ∈ gFA) ∨ ∃ q, (gOwn k, idx, ci * 100 + f, q) ∈ gFN
theorem gGet {p : Program} {e : Env} {R0 : Room} {s : State} {m : MethodId} {args : Array Value} {below : List Frame} {meth : Method} {c : Code} {H : Heap} {locs : List Loc} {cells slots base : Nat} {sa : Nat → Nat} {ca : Nat → ClassId} {D : va_G} {lsM : Array Slot} {Qm : State → Prop} {d k pc idx ci f a n : Nat} {σ : gM} {rest : List Value} {v : Value}
    (hC : gCx X p R0 s m args meth c d k base sa ca D) (hR : gRep base sa ca D σ H) (hq : σ.1[a]? = some (ci, n)) (h12 : ci < 12) (hf : f < (gCl ci).2.2) (h100 : f < 100) (hlk : gLk k idx ci f) (hv : gFv (gAd base sa) σ a ci f = v) (hdg : decode (gCode k) pc = .ok (.getfield idx, 3))
    (kk : W p l e R0 s m args below meth c H locs cells slots Qm (F0 m (pc + 3) lsM (v :: rest))) : W p l e R0 s m args below meth c H locs cells slots Qm (F0 m pc lsM (.ref (gAd base sa a) :: rest)) := by
  obtain ⟨hx, hb, hml, hown, hts, hK, hSt, -⟩ := hC
  have hP := hR.2
  have he := gWo_at (base := base) (ad := gAd base sa) (ca := ca) hq
  rw [gEt_obj h12] at he
  rw [gAd_lt (gRep_lt hR hq)]
  have hv' : ((List.range (gNf ci)).map (gFv (gAd base sa) σ a ci))[f]? = some v := by
    rw [List.getElem?_map, List.getElem?_range (show f < gNf ci from hf)]
    exact congrArg some hv
  rcases hlk with ⟨q, hq2⟩ | ⟨q, hq2⟩
  · exact va_get hx hb hts (gLay_gw h12) hown hK hP a he (gCl_at ci h12) f hf (hts _ (gFA_gw h100 hq2)) (fun _ h => by rw [gDc ci h12 f hf] at h; exact h) hv' hdg kk
  · exact va_getN hx hb hts (gLay_gw h12) hown hK hP a he (gCl_at ci h12) f hf (va_Nw.use rfl (hSt.1 _ (gFN_nw h100 hq2))) (fun _ h => by rw [gDc ci h12 f hf] at h; exact h) hv' hdg kk
theorem gKd_i {t : FieldType} (h : gKd t % 3 = 0) : t = .int ∨ t = .boolean := by
  cases t <;> simp [gKd] at h ⊢
theorem gKd_l {t : FieldType} (h : gKd t = 1) : t = .long := by
  cases t <;> simp [gKd] at h ⊢
theorem gKd_0 {t : FieldType} (h : gKd t = 0) : t = .int := by
  cases t <;> simp [gKd] at h ⊢
theorem gKd_3 {t : FieldType} (h : gKd t = 3) : t = .boolean := by
  cases t <;> simp [gKd] at h ⊢
theorem gFv_r {ad : Nat → Nat} {σ : gM} {a t f : Nat} (h : gKd (gTy t f) = 2) : gFv ad σ a t f = va_rf ((σ.2.2.2 a f).map ad) := by
  unfold gFv
  cases ht : gTy t f <;> rw [ht] at h <;> first | rfl | (exact absurd h (by decide))
theorem inv_get50 {k pc nx ci f : Nat} (h : gF k pc = some (50, nx, ci, f, 0, 0)) : ∃ idx, decode (gCode k) pc = .ok (.getfield idx, 3) ∧ nx = pc + 3 ∧ ci < 12 ∧ f < 100 ∧ f < (gCl ci).2.2 ∧ gKd (gTy ci f) % 3 = 0 ∧ gLk k idx ci f := by
  obtain ⟨i, len, hd, hc⟩ := gF_ok h
  cases i <;> simp [gCk] at hc
  case getfield idx =>
    obtain ⟨⟨rfl, h1, h2, h3, h4, rfl⟩, h5⟩ := hc
    exact ⟨idx, hd, rfl, h1, h2, h3, by omega, h5.imp gIs_spec gIs_spec⟩
  all_goals first | omega | (rename_i c0 off; have := gCc_le c0; omega) | (have := gKd_le (gTy ci f); omega)
theorem inv_get51 {k pc nx ci f : Nat} (h : gF k pc = some (51, nx, ci, f, 0, 0)) : ∃ idx, decode (gCode k) pc = .ok (.getfield idx, 3) ∧ nx = pc + 3 ∧ ci < 12 ∧ f < 100 ∧ f < (gCl ci).2.2 ∧ gKd (gTy ci f) % 3 = 1 ∧ gLk k idx ci f := by
  obtain ⟨i, len, hd, hc⟩ := gF_ok h
  cases i <;> simp [gCk] at hc
  case getfield idx =>
    obtain ⟨⟨rfl, h1, h2, h3, h4, rfl⟩, h5⟩ := hc
    exact ⟨idx, hd, rfl, h1, h2, h3, by omega, h5.imp gIs_spec gIs_spec⟩
  all_goals first | omega | (rename_i c0 off; have := gCc_le c0; omega) | (have := gKd_le (gTy ci f); omega)
theorem inv_get52 {k pc nx ci f : Nat} (h : gF k pc = some (52, nx, ci, f, 0, 0)) : ∃ idx, decode (gCode k) pc = .ok (.getfield idx, 3) ∧ nx = pc + 3 ∧ ci < 12 ∧ f < 100 ∧ f < (gCl ci).2.2 ∧ gKd (gTy ci f) % 3 = 2 ∧ gLk k idx ci f := by
  obtain ⟨i, len, hd, hc⟩ := gF_ok h
  cases i <;> simp [gCk] at hc
  case getfield idx =>
    obtain ⟨⟨rfl, h1, h2, h3, h4, rfl⟩, h5⟩ := hc
    exact ⟨idx, hd, rfl, h1, h2, h3, by omega, h5.imp gIs_spec gIs_spec⟩
  all_goals first | omega | (rename_i c0 off; have := gCc_le c0; omega) | (have := gKd_le (gTy ci f); omega)
theorem snd_getI : r_getI (gMk l X) := by
  intro d k pc nx mc ms ls st Kd I L R Q ci f a n hF hq kk
  intro p e R0 s m args below meth c H locs cells slots base sa ca D lsM Qm hC hR hsz hS hc hs hl hret
  obtain ⟨idx, hdg, rfl, h12, h100, hf, hop, hlk⟩ := inv_get50 hF
  refine gGet hC hR hq h12 hf h100 hlk (v := .int (I a f)) ?_ hdg (kk p e R0 s m args below meth c H locs cells slots base sa ca D lsM Qm hC hR hsz hS hc hs hl hret)
  unfold gFv
  rcases gKd_i hop with h | h <;> rw [h]
theorem snd_getL : r_getL (gMk l X) := by
  intro d k pc nx mc ms ls st Kd I L R Q ci f a n hF hq kk
  intro p e R0 s m args below meth c H locs cells slots base sa ca D lsM Qm hC hR hsz hS hc hs hl hret
  obtain ⟨idx, hdg, rfl, h12, h100, hf, hop, hlk⟩ := inv_get51 hF
  refine gGet hC hR hq h12 hf h100 hlk (v := .long (L a f)) ?_ hdg (kk p e R0 s m args below meth c H locs cells slots base sa ca D lsM Qm hC hR hsz hS hc hs hl hret)
  unfold gFv
  rw [gKd_l (t := gTy ci f) (by cases h : gTy ci f <;> rw [h] at hop <;> simp [gKd] at hop ⊢)]
theorem snd_getR : r_getR (gMk l X) := by
  intro d k pc nx mc ms ls st Kd I L R Q ci f a n r hF hq hr kk
  intro p e R0 s m args below meth c H locs cells slots base sa ca D lsM Qm hC hR hsz hS hc hs hl hret
  obtain ⟨idx, hdg, rfl, h12, h100, hf, hop, hlk⟩ := inv_get52 hF
  refine gGet hC hR hq h12 hf h100 hlk (v := .ref (gAd base sa r)) ?_ hdg (kk p e R0 s m args below meth c H locs cells slots base sa ca D lsM Qm hC hR hsz hS hc hs hl hret)
  rw [gFv_r (by cases h : gTy ci f <;> rw [h] at hop <;> simp [gKd] at hop ⊢)]
  show va_rf ((R a f).map _) = _
  rw [hr]
  rfl
theorem inv_put53 {k pc nx ci f : Nat} (h : gF k pc = some (53, nx, ci, f, 0, 0)) : ∃ idx, decode (gCode k) pc = .ok (.putfield idx, 3) ∧ nx = pc + 3 ∧ ci < 12 ∧ f < 100 ∧ f < (gCl ci).2.2 ∧ gKd (gTy ci f) = 0 ∧ (((gCl ci).2.1 f).2.2.2 = false ∨ (gY k).name = "<init>" ∧ gOwn k = ci ∧ ((gCl ci).2.1 f).1 = (gCl ci).1) ∧ ∃ q, (gOwn k, idx, ci * 100 + f, q) ∈ gFA := by
  obtain ⟨i, len, hd, hc⟩ := gF_ok h
  cases i <;> simp [gCk] at hc
  case putfield idx =>
    obtain ⟨⟨rfl, h1, h2, h3, ⟨h4, rfl⟩, h6⟩, h5⟩ := hc
    exact ⟨idx, hd, rfl, h1, h2, h3, by omega, h6, gIs_spec h5⟩
  all_goals first | omega | (rename_i c0 off; have := gCc_le c0; omega) | (have := gKd_le (gTy ci f); omega)
theorem inv_put54 {k pc nx ci f : Nat} (h : gF k pc = some (54, nx, ci, f, 0, 0)) : ∃ idx, decode (gCode k) pc = .ok (.putfield idx, 3) ∧ nx = pc + 3 ∧ ci < 12 ∧ f < 100 ∧ f < (gCl ci).2.2 ∧ gKd (gTy ci f) = 1 ∧ (((gCl ci).2.1 f).2.2.2 = false ∨ (gY k).name = "<init>" ∧ gOwn k = ci ∧ ((gCl ci).2.1 f).1 = (gCl ci).1) ∧ ∃ q, (gOwn k, idx, ci * 100 + f, q) ∈ gFA := by
  obtain ⟨i, len, hd, hc⟩ := gF_ok h
  cases i <;> simp [gCk] at hc
  case putfield idx =>
    obtain ⟨⟨rfl, h1, h2, h3, ⟨h4, rfl⟩, h6⟩, h5⟩ := hc
    exact ⟨idx, hd, rfl, h1, h2, h3, by omega, h6, gIs_spec h5⟩
  all_goals first | omega | (rename_i c0 off; have := gCc_le c0; omega) | (have := gKd_le (gTy ci f); omega)
theorem inv_put55 {k pc nx ci f : Nat} (h : gF k pc = some (55, nx, ci, f, 0, 0)) : ∃ idx, decode (gCode k) pc = .ok (.putfield idx, 3) ∧ nx = pc + 3 ∧ ci < 12 ∧ f < 100 ∧ f < (gCl ci).2.2 ∧ gKd (gTy ci f) = 2 ∧ (((gCl ci).2.1 f).2.2.2 = false ∨ (gY k).name = "<init>" ∧ gOwn k = ci ∧ ((gCl ci).2.1 f).1 = (gCl ci).1) ∧ ∃ q, (gOwn k, idx, ci * 100 + f, q) ∈ gFA := by
  obtain ⟨i, len, hd, hc⟩ := gF_ok h
  cases i <;> simp [gCk] at hc
  case putfield idx =>
    obtain ⟨⟨rfl, h1, h2, h3, ⟨h4, rfl⟩, h6⟩, h5⟩ := hc
    exact ⟨idx, hd, rfl, h1, h2, h3, by omega, h6, gIs_spec h5⟩
  all_goals first | omega | (rename_i c0 off; have := gCc_le c0; omega) | (have := gKd_le (gTy ci f); omega)
theorem inv_put56 {k pc nx ci f : Nat} (h : gF k pc = some (56, nx, ci, f, 0, 0)) : ∃ idx, decode (gCode k) pc = .ok (.putfield idx, 3) ∧ nx = pc + 3 ∧ ci < 12 ∧ f < 100 ∧ f < (gCl ci).2.2 ∧ gKd (gTy ci f) = 3 ∧ (((gCl ci).2.1 f).2.2.2 = false ∨ (gY k).name = "<init>" ∧ gOwn k = ci ∧ ((gCl ci).2.1 f).1 = (gCl ci).1) ∧ ∃ q, (gOwn k, idx, ci * 100 + f, q) ∈ gFA := by
  obtain ⟨i, len, hd, hc⟩ := gF_ok h
  cases i <;> simp [gCk] at hc
  case putfield idx =>
    obtain ⟨⟨rfl, h1, h2, h3, ⟨h4, rfl⟩, h6⟩, h5⟩ := hc
    exact ⟨idx, hd, rfl, h1, h2, h3, by omega, h6, gIs_spec h5⟩
  all_goals first | omega | (rename_i c0 off; have := gCc_le c0; omega) | (have := gKd_le (gTy ci f); omega)
theorem gCn_cl : ∀ c, c < 12 → gCn c = (gCl c).1 := by
  intro c hc
  match c, hc with
  | 0, _ => rfl
  | 1, _ => rfl
  | 2, _ => rfl
  | 3, _ => rfl
  | 4, _ => rfl
  | 5, _ => rfl
  | 6, _ => rfl
  | 7, _ => rfl
  | 8, _ => rfl
  | 9, _ => rfl
  | 10, _ => rfl
  | 11, _ => rfl
  | n + 12, hc => exact absurd hc (by omega)
theorem gPut {p : Program} {e : Env} {R0 : Room} {s : State} {m : MethodId} {args : Array Value} {below : List Frame} {meth : Method} {c : Code} {H : Heap} {locs : List Loc} {cells slots base : Nat} {sa : Nat → Nat} {ca : Nat → ClassId} {D : va_G} {lsM : Array Slot} {Qm : State → Prop} {d k pc idx ci f a n : Nat} {σ σ' : gM} {rest : List Value} {v : Value}
    (hC : gCx X p R0 s m args meth c d k base sa ca D) (hR : gRep base sa ca D σ H) (hS : va_S (gA base) s.heap H locs) (hq : σ.1[a]? = some (ci, n)) (h12 : ci < 12) (hf : f < (gCl ci).2.2) (h100 : f < 100)
    (hfin : ((gCl ci).2.1 f).2.2.2 = false ∨ (gY k).name = "<init>" ∧ gOwn k = ci ∧ ((gCl ci).2.1 f).1 = (gCl ci).1) (hlk : ∃ q, (gOwn k, idx, ci * 100 + f, q) ∈ gFA) (hn : narrow (gTy ci f) v = v) (hfit : fits (gTy ci f) v = true)
    (h1 : σ'.1 = σ.1) (hset : ((List.range (gNf ci)).map (gFv (gAd base sa) σ a ci)).set f v = (List.range (gNf ci)).map (gFv (gAd base sa) σ' a ci)) (ho : ∀ b, b ≠ a → σ'.2.1 b = σ.2.1 b ∧ σ'.2.2.1 b = σ.2.2.1 b ∧ σ'.2.2.2 b = σ.2.2.2 b) (hdg : decode (gCode k) pc = .ok (.putfield idx, 3))
    (kk : ∀ (H1 : Heap) (locs1 : List Loc), gRep base sa ca D σ' H1 → va_S (gA base) s.heap H1 locs1 → W p l e R0 s m args below meth c H1 locs1 cells slots Qm (F0 m (pc + 3) lsM rest)) : W p l e R0 s m args below meth c H locs cells slots Qm (F0 m pc lsM (v :: .ref (gAd base sa a) :: rest)) := by
  obtain ⟨hx, hb, hml, hown, hts, hK, hSt, -, -, hin, -⟩ := hC
  have hP := hR.2
  have he := gWo_at (base := base) (ad := gAd base sa) (ca := ca) hq
  rw [gEt_obj h12] at he
  rw [gAd_lt (gRep_lt hR hq)]
  have hw : (gWo base (gAd base sa) ca σ).set a (base + a, .inr (ci, ((List.range (gNf ci)).map (gFv (gAd base sa) σ a ci)).set f v)) = gWo base (gAd base sa) ca σ' := by
    refine gWo_set h1 hq ?_ fun b q' hb => gEt_congr (ho b hb).1 (ho b hb).2.1 (ho b hb).2.2 q'
    rw [hset, gEt_obj h12]
  have hl : f < ((List.range (gNf ci)).map (gFv (gAd base sa) σ a ci)).length := by simpa [gNf] using hf
  obtain ⟨q, hq2⟩ := hlk
  have kk' : ∀ (H1 : Heap) (locs1 : List Loc), va_P D vwCl ((gWo base (gAd base sa) ca σ).set a (base + a, .inr (ci, ((List.range (gNf ci)).map (gFv (gAd base sa) σ a ci)).set f v))) H1 → va_D (gA base) ((gWo base (gAd base sa) ca σ).set a (base + a, .inr (ci, ((List.range (gNf ci)).map (gFv (gAd base sa) σ a ci)).set f v))) → va_S (gA base) s.heap H1 locs1 → W p l e R0 s m args below meth c H1 locs1 cells slots Qm (F0 m (pc + 3) lsM rest) := by
    intro H1 locs1 g1 _ g3
    rw [hw] at g1
    exact kk H1 locs1 ⟨by rw [h1]; exact hR.1, g1⟩ g3
  rcases hfin with hfin | ⟨hi1, hi2, hi3⟩
  · exact va_put hx hb hts (gLay_gw h12) (gTy ci) (gTy_ok ci h12) (gNm_ok ci h12) hown hK hP gWo_D hS a he (gCl_at ci h12) f hf (hts _ (gFA_gw h100 hq2)) (fun _ h => by rw [gDc ci h12 f hf] at h; exact h) hfin (gTy_ok ci h12 f hf) hn hfit hl hdg kk'
  · cases hz : ((gCl ci).2.1 f).2.2.2 with
    | false => exact va_put hx hb hts (gLay_gw h12) (gTy ci) (gTy_ok ci h12) (gNm_ok ci h12) hown hK hP gWo_D hS a he (gCl_at ci h12) f hf (hts _ (gFA_gw h100 hq2)) (fun _ h => by rw [gDc ci h12 f hf] at h; exact h) hz (gTy_ok ci h12 f hf) hn hfit hl hdg kk'
    | true => exact va_putF hx hb hts (gLay_gw h12) (gTy ci) (gTy_ok ci h12) (gNm_ok ci h12) hown hK hP gWo_D hS a he (gCl_at ci h12) f hf (hts _ (gFA_gw h100 hq2)) (fun _ h => by rw [gDc ci h12 f hf] at h; exact h) hz (hin hi1) (by rw [hi3, hi2, gCn_cl ci h12]) (gTy_ok ci h12 f hf) hn hfit hl hdg kk'
theorem gSetF {ad : Nat → Nat} {σ σ' : gM} {a ci f N : Nat} {v : Value} (hv : gFv ad σ' a ci f = v) (ho : ∀ g, g ≠ f → gFv ad σ' a ci g = gFv ad σ a ci g) : ((List.range N).map (gFv ad σ a ci)).set f v = (List.range N).map (gFv ad σ' a ci) := by
  apply List.ext_getElem?
  intro j
  by_cases hj : j = f
  · subst hj
    rw [List.getElem?_set]
    by_cases hl : j < N
    · rw [if_pos rfl, if_pos (by simpa using hl), List.getElem?_map, List.getElem?_range hl]
      exact congrArg some hv.symm
    · rw [if_pos rfl, if_neg (by simpa using hl), List.getElem?_eq_none (by simp; omega)]
  · rw [List.getElem?_set_ne (fun h => hj h.symm), List.getElem?_map, List.getElem?_map]
    by_cases hl : j < N
    · rw [List.getElem?_range hl]
      exact congrArg some (ho j hj).symm
    · rw [List.getElem?_eq_none (by simp; omega)]
      rfl
theorem gFv_c1 {ad : Nat → Nat} {σ σ' : gM} {b t f : Nat} (hI : σ'.2.1 b f = σ.2.1 b f) (hL : σ'.2.2.1 b f = σ.2.2.1 b f) (hR : σ'.2.2.2 b f = σ.2.2.2 b f) : gFv ad σ' b t f = gFv ad σ b t f := by
  unfold gFv
  rw [hI, hL, hR]
theorem gU_k {α : Type} {f : Nat → Nat → α} {a k j : Nat} {v : α} (h : j ≠ k) : gU f a k v a j = f a j := by simp [gU, h]
theorem gU_e {α : Type} {f : Nat → Nat → α} {a k : Nat} {v : α} : gU f a k v a k = v := by simp [gU]
theorem snd_putI : r_putI (gMk l X) := by
  intro d k pc nx mc ms ls st Kd I L R Q ci f a n x hF hq kk
  intro p e R0 s m args below meth c H locs cells slots base sa ca D lsM Qm hC hR hsz hS hc hs hl hret
  obtain ⟨idx, hdg, rfl, h12, h100, hf, hop, hfin, hlk⟩ := inv_put53 hF
  have ht := gKd_0 hop
  refine gPut (σ := (Kd, I, L, R)) (σ' := (Kd, gU I a f x, L, R)) (v := .int x) hC hR hS hq h12 hf h100 hfin hlk (by rw [ht]; rfl) (by rw [ht]; rfl) rfl (gSetF ?_ fun g hg => ?_) (fun b hb => ?_) hdg (fun H1 locs1 hR1 hS1 => kk p e R0 s m args below meth c H1 locs1 cells slots base sa ca D lsM Qm hC hR1 hsz hS1 hc hs hl hret)
  · unfold gFv
    rw [ht]
    show Value.int (gU I a f x a f) = _; rw [gU_e]
  · exact gFv_c1 (gU_k hg) rfl rfl
  · exact ⟨gU_o hb, rfl, rfl⟩
theorem snd_putZ : r_putZ (gMk l X) := by
  intro d k pc nx mc ms ls st Kd I L R Q ci f a n x hF hq hz kk
  intro p e R0 s m args below meth c H locs cells slots base sa ca D lsM Qm hC hR hsz hS hc hs hl hret
  obtain ⟨idx, hdg, rfl, h12, h100, hf, hop, hfin, hlk⟩ := inv_put56 hF
  have ht := gKd_3 hop
  refine gPut (σ := (Kd, I, L, R)) (σ' := (Kd, gU I a f x, L, R)) (v := .int x) hC hR hS hq h12 hf h100 hfin hlk (by rw [ht]; rcases hz with rfl | rfl <;> rfl) (by rw [ht]; rcases hz with rfl | rfl <;> rfl) rfl (gSetF ?_ fun g hg => ?_) (fun b hb => ?_) hdg (fun H1 locs1 hR1 hS1 => kk p e R0 s m args below meth c H1 locs1 cells slots base sa ca D lsM Qm hC hR1 hsz hS1 hc hs hl hret)
  · unfold gFv
    rw [ht]
    show Value.int (gU I a f x a f) = _; rw [gU_e]
  · exact gFv_c1 (gU_k hg) rfl rfl
  · exact ⟨gU_o hb, rfl, rfl⟩
theorem snd_putL : r_putL (gMk l X) := by
  intro d k pc nx mc ms ls st Kd I L R Q ci f a n x hF hq kk
  intro p e R0 s m args below meth c H locs cells slots base sa ca D lsM Qm hC hR hsz hS hc hs hl hret
  obtain ⟨idx, hdg, rfl, h12, h100, hf, hop, hfin, hlk⟩ := inv_put54 hF
  have ht := gKd_l hop
  refine gPut (σ := (Kd, I, L, R)) (σ' := (Kd, I, gU L a f x, R)) (v := .long x) hC hR hS hq h12 hf h100 hfin hlk (by rw [ht]; rfl) (by rw [ht]; rfl) rfl (gSetF ?_ fun g hg => ?_) (fun b hb => ?_) hdg (fun H1 locs1 hR1 hS1 => kk p e R0 s m args below meth c H1 locs1 cells slots base sa ca D lsM Qm hC hR1 hsz hS1 hc hs hl hret)
  · unfold gFv
    rw [ht]
    show Value.long (gU L a f x a f) = _; rw [gU_e]
  · exact gFv_c1 rfl (gU_k hg) rfl
  · exact ⟨rfl, gU_o hb, rfl⟩
noncomputable def gIsR (t : FieldType) : Bool := match t with
  | .object _ => true
  | .array _ => true
  | _ => false
theorem gKd_2fit {t : FieldType} {a : Nat} (h2 : gIsR t = true) : narrow t (.ref a) = .ref a ∧ fits t (.ref a) = true := by
  cases t <;> first | exact ⟨rfl, rfl⟩ | simp [gIsR] at h2
theorem gTy_or : ∀ c, c < 12 → ∀ f, f < (gCl c).2.2 → gKd (gTy c f) = 2 → gIsR (gTy c f) = true := by decide +kernel
theorem snd_putR : r_putR (gMk l X) := by
  intro d k pc nx mc ms ls st Kd I L R Q ci f a n x hF hq kk
  intro p e R0 s m args below meth c H locs cells slots base sa ca D lsM Qm hC hR hsz hS hc hs hl hret
  obtain ⟨idx, hdg, rfl, h12, h100, hf, hop, hfin, hlk⟩ := inv_put55 hF
  have ht := gKd_2fit (a := gAd base sa x) (gTy_or ci h12 f hf hop)
  refine gPut (σ := (Kd, I, L, R)) (σ' := (Kd, I, L, gU R a f (some x))) (v := .ref (gAd base sa x)) hC hR hS hq h12 hf h100 hfin hlk ht.1 ht.2 rfl (gSetF ?_ fun g hg => ?_) (fun b hb => ⟨rfl, rfl, gU_o hb⟩) hdg (fun H1 locs1 hR1 hS1 => kk p e R0 s m args below meth c H1 locs1 cells slots base sa ca D lsM Qm hC hR1 hsz hS1 hc hs hl hret)
  · rw [gFv_r hop]
    show va_rf ((gU R a f (some x) a f).map _) = _
    rw [gU_e]
    rfl
  · exact gFv_c1 rfl rfl (gU_k hg)
theorem snd_iald : r_iald (gMk l X) := by
  intro d k pc nx mc ms ls st Kd I L R Q a n i hF hq hin kk
  intro p e R0 s m args below meth c H locs cells slots base sa ca D lsM Qm hC hR hsz hS hc hs hl hret
  obtain ⟨hdg, rfl⟩ := inv_iaload hF
  have he := gWo_at (base := base) (ad := gAd base sa) (ca := ca) (σ := (Kd, I, L, R)) hq
  rw [gEt_12] at he
  show W p l e R0 s m args below meth c H locs cells slots Qm (F0 m pc lsM (.int i :: .ref (gAd base sa a) :: st.map (gV (gAd base sa))))
  rw [gAd_lt (gRep_lt hR hq)]
  refine va_iald hC.1 hC.2.1 hC.2.2.2.2.2.1 hR.2 a 0 he rfl hin hdg ?_
  exact kk p e R0 s m args below meth c H locs cells slots base sa ca D lsM Qm hC hR hsz hS hc hs hl hret
theorem snd_bald : r_bald (gMk l X) := by
  intro d k pc nx mc ms ls st Kd I L R Q a n i hF hq hin kk
  intro p e R0 s m args below meth c H locs cells slots base sa ca D lsM Qm hC hR hsz hS hc hs hl hret
  obtain ⟨hdg, rfl⟩ := inv_baload hF
  have he := gWo_at (base := base) (ad := gAd base sa) (ca := ca) (σ := (Kd, I, L, R)) hq
  rw [gEt_14] at he
  show W p l e R0 s m args below meth c H locs cells slots Qm (F0 m pc lsM (.int i :: .ref (gAd base sa a) :: st.map (gV (gAd base sa))))
  rw [gAd_lt (gRep_lt hR hq)]
  refine va_bald hC.1 hC.2.1 hC.2.2.2.2.2.1 hR.2 a 2 he rfl hin hdg ?_
  exact kk p e R0 s m args below meth c H locs cells slots base sa ca D lsM Qm hC hR hsz hS hc hs hl hret
theorem snd_hald : r_hald (gMk l X) := by
  intro d k pc nx mc ms ls st Kd I L R Q a n i hF hq hin kk
  intro p e R0 s m args below meth c H locs cells slots base sa ca D lsM Qm hC hR hsz hS hc hs hl hret
  obtain ⟨hdg, rfl⟩ := inv_saload hF
  have he := gWo_at (base := base) (ad := gAd base sa) (ca := ca) (σ := (Kd, I, L, R)) hq
  rw [gEt_15] at he
  show W p l e R0 s m args below meth c H locs cells slots Qm (F0 m pc lsM (.int i :: .ref (gAd base sa a) :: st.map (gV (gAd base sa))))
  rw [gAd_lt (gRep_lt hR hq)]
  refine va_sald hC.1 hC.2.1 hC.2.2.2.2.2.1 hR.2 a 3 he rfl hin hdg ?_
  exact kk p e R0 s m args below meth c H locs cells slots base sa ca D lsM Qm hC hR hsz hS hc hs hl hret
theorem snd_lald : r_lald (gMk l X) := by
  intro d k pc nx mc ms ls st Kd I L R Q a n i hF hq hin kk
  intro p e R0 s m args below meth c H locs cells slots base sa ca D lsM Qm hC hR hsz hS hc hs hl hret
  obtain ⟨hdg, rfl⟩ := inv_laload hF
  have he := gWo_at (base := base) (ad := gAd base sa) (ca := ca) (σ := (Kd, I, L, R)) hq
  rw [gEt_13] at he
  show W p l e R0 s m args below meth c H locs cells slots Qm (F0 m pc lsM (.int i :: .ref (gAd base sa a) :: st.map (gV (gAd base sa))))
  rw [gAd_lt (gRep_lt hR hq)]
  refine va_lald hC.1 hC.2.1 hC.2.2.2.2.2.1 hR.2 a 1 he rfl hin hdg ?_
  exact kk p e R0 s m args below meth c H locs cells slots base sa ca D lsM Qm hC hR hsz hS hc hs hl hret
theorem snd_aald : r_aald (gMk l X) := by
  intro d k pc nx mc ms ls st Kd I L R Q a n r i hF hq hin hr kk
  intro p e R0 s m args below meth c H locs cells slots base sa ca D lsM Qm hC hR hsz hS hc hs hl hret
  obtain ⟨hdg, rfl⟩ := inv_aaload hF
  have he := gWo_at (base := base) (ad := gAd base sa) (ca := ca) (σ := (Kd, I, L, R)) hq
  rw [gEt_16] at he
  show W p l e R0 s m args below meth c H locs cells slots Qm (F0 m pc lsM (.int i :: .ref (gAd base sa a) :: st.map (gV (gAd base sa))))
  rw [gAd_lt (gRep_lt hR hq)]
  refine va_aldq hC.1 hC.2.1 hC.2.2.2.2.2.1 hR.2 a 4 he rfl hin hdg ?_
  show W p l e R0 s m args below meth c H locs cells slots Qm (F0 m (pc + 1) lsM (va_rf ((R a i.toNatClampNeg).map (gAd base sa)) :: st.map (gV (gAd base sa))))
  rw [hr]
  exact kk p e R0 s m args below meth c H locs cells slots base sa ca D lsM Qm hC hR hsz hS hc hs hl hret
theorem gP_set {base : Nat} {ad : Nat → Nat} {ca : Nat → ClassId} {D : va_G} {H1 : Heap} {σ σ' : gM} {a : Nat} {q : Nat × Nat} {E : va_E} (g1 : va_P D vwCl ((gWo base ad ca σ).set a (base + a, E)) H1) (h1 : σ'.1 = σ.1) (ha : σ.1[a]? = some q) (hE : E = gEt ad ca σ' a q) (ho : ∀ (b : Nat) (q' : Nat × Nat), b ≠ a → gEt ad ca σ' b q' = gEt ad ca σ b q') : va_P D vwCl (gWo base ad ca σ') H1 := by
  rw [gWo_set h1 ha hE ho] at g1
  exact g1
theorem snd_iast : r_iast (gMk l X) := by
  intro d k pc nx mc ms ls st Kd I L R Q a n i x hF hq hin kk
  intro p e R0 s m args below meth c H locs cells slots base sa ca D lsM Qm hC hR hsz hS hc hs hl hret
  obtain ⟨hdg, rfl⟩ := inv_iastore hF
  have he := gWo_at (base := base) (ad := gAd base sa) (ca := ca) (σ := (Kd, I, L, R)) hq
  rw [gEt_12] at he
  show W p l e R0 s m args below meth c H locs cells slots Qm (F0 m pc lsM (.int x :: .int i :: .ref (gAd base sa a) :: st.map (gV (gAd base sa))))
  rw [gAd_lt (gRep_lt hR hq)]
  refine va_iast hC.1 hC.2.1 hC.2.2.2.2.2.1 hR.2 gWo_D hS a 0 he rfl hin hdg (fun H1 locs1 g1 _ g3 => ?_)
  have g1 := gP_set (σ' := (Kd, gU I a i.toNatClampNeg x, L, R)) g1 rfl hq (by rw [gEt_12]; show Sum.inl (_, _, Sum.inl (upd (I a) _ _)) = Sum.inl (_, _, Sum.inl (gU I a _ _ a)); rw [gU_s]) (fun b q' hb => gEt_congr (σ := (Kd, I, L, R)) (σ' := (Kd, gU I a i.toNatClampNeg x, L, R)) (gU_o hb) rfl rfl q')
  exact kk p e R0 s m args below meth c H1 locs1 cells slots base sa ca D lsM Qm hC ⟨hR.1, g1⟩ hsz g3 hc hs hl hret
theorem snd_bast : r_bast (gMk l X) := by
  intro d k pc nx mc ms ls st Kd I L R Q a n i x hF hq hin kk
  intro p e R0 s m args below meth c H locs cells slots base sa ca D lsM Qm hC hR hsz hS hc hs hl hret
  obtain ⟨hdg, rfl⟩ := inv_bastore hF
  have he := gWo_at (base := base) (ad := gAd base sa) (ca := ca) (σ := (Kd, I, L, R)) hq
  rw [gEt_14] at he
  show W p l e R0 s m args below meth c H locs cells slots Qm (F0 m pc lsM (.int x :: .int i :: .ref (gAd base sa a) :: st.map (gV (gAd base sa))))
  rw [gAd_lt (gRep_lt hR hq)]
  refine va_bast hC.1 hC.2.1 hC.2.2.2.2.2.1 hR.2 gWo_D hS a 2 he rfl hin hdg (fun H1 locs1 g1 _ g3 => ?_)
  have g1 := gP_set (σ' := (Kd, gU I a i.toNatClampNeg x.toInt8.toInt32, L, R)) g1 rfl hq (by rw [gEt_14]; show Sum.inl (_, _, Sum.inl (upd (I a) _ _)) = Sum.inl (_, _, Sum.inl (gU I a _ _ a)); rw [gU_s, vp_nar_byte]) (fun b q' hb => gEt_congr (σ := (Kd, I, L, R)) (σ' := (Kd, gU I a i.toNatClampNeg x.toInt8.toInt32, L, R)) (gU_o hb) rfl rfl q')
  exact kk p e R0 s m args below meth c H1 locs1 cells slots base sa ca D lsM Qm hC ⟨hR.1, g1⟩ hsz g3 hc hs hl hret
theorem snd_hast : r_hast (gMk l X) := by
  intro d k pc nx mc ms ls st Kd I L R Q a n i x hF hq hin kk
  intro p e R0 s m args below meth c H locs cells slots base sa ca D lsM Qm hC hR hsz hS hc hs hl hret
  obtain ⟨hdg, rfl⟩ := inv_sastore hF
  have he := gWo_at (base := base) (ad := gAd base sa) (ca := ca) (σ := (Kd, I, L, R)) hq
  rw [gEt_15] at he
  show W p l e R0 s m args below meth c H locs cells slots Qm (F0 m pc lsM (.int x :: .int i :: .ref (gAd base sa a) :: st.map (gV (gAd base sa))))
  rw [gAd_lt (gRep_lt hR hq)]
  refine va_sast hC.1 hC.2.1 hC.2.2.2.2.2.1 hR.2 gWo_D hS a 3 he rfl hin hdg (fun H1 locs1 g1 _ g3 => ?_)
  have g1 := gP_set (σ' := (Kd, gU I a i.toNatClampNeg x.toInt16.toInt32, L, R)) g1 rfl hq (by rw [gEt_15]; show Sum.inl (_, _, Sum.inl (upd (I a) _ _)) = Sum.inl (_, _, Sum.inl (gU I a _ _ a)); rw [gU_s, vp_nar_short]) (fun b q' hb => gEt_congr (σ := (Kd, I, L, R)) (σ' := (Kd, gU I a i.toNatClampNeg x.toInt16.toInt32, L, R)) (gU_o hb) rfl rfl q')
  exact kk p e R0 s m args below meth c H1 locs1 cells slots base sa ca D lsM Qm hC ⟨hR.1, g1⟩ hsz g3 hc hs hl hret
theorem snd_last : r_last (gMk l X) := by
  intro d k pc nx mc ms ls st Kd I L R Q a n i x hF hq hin kk
  intro p e R0 s m args below meth c H locs cells slots base sa ca D lsM Qm hC hR hsz hS hc hs hl hret
  obtain ⟨hdg, rfl⟩ := inv_lastore hF
  have he := gWo_at (base := base) (ad := gAd base sa) (ca := ca) (σ := (Kd, I, L, R)) hq
  rw [gEt_13] at he
  show W p l e R0 s m args below meth c H locs cells slots Qm (F0 m pc lsM (.long x :: .int i :: .ref (gAd base sa a) :: st.map (gV (gAd base sa))))
  rw [gAd_lt (gRep_lt hR hq)]
  refine va_last hC.1 hC.2.1 hC.2.2.2.2.2.1 hR.2 gWo_D hS a 1 he rfl hin hdg (fun H1 locs1 g1 _ g3 => ?_)
  have g1 := gP_set (σ' := (Kd, I, gU L a i.toNatClampNeg x, R)) g1 rfl hq (by rw [gEt_13]; show Sum.inl (_, _, Sum.inr (Sum.inl (vp_updL (L a) _ _))) = Sum.inl (_, _, Sum.inr (Sum.inl (gU L a _ _ a))); rw [gU_sL]) (fun b q' hb => gEt_congr (σ := (Kd, I, L, R)) (σ' := (Kd, I, gU L a i.toNatClampNeg x, R)) rfl (gU_o hb) rfl q')
  exact kk p e R0 s m args below meth c H1 locs1 cells slots base sa ca D lsM Qm hC ⟨hR.1, g1⟩ hsz g3 hc hs hl hret
theorem snd_aast : r_aast (gMk l X) := by
  intro d k pc nx mc ms ls st Kd I L R Q a n x nx2 i hF hq hin hx2 kk
  intro p e R0 s m args below meth c H locs cells slots base sa ca D lsM Qm hC hR hsz hS hc hs hl hret
  obtain ⟨hdg, rfl⟩ := inv_aastore hF
  have he := gWo_at (base := base) (ad := gAd base sa) (ca := ca) (σ := (Kd, I, L, R)) hq
  have hv := gWo_at (base := base) (ad := gAd base sa) (ca := ca) (σ := (Kd, I, L, R)) hx2
  rw [gEt_16] at he
  rw [gEt_obj (by decide)] at hv
  show W p l e R0 s m args below meth c H locs cells slots Qm (F0 m pc lsM (.ref (gAd base sa x) :: .int i :: .ref (gAd base sa a) :: st.map (gV (gAd base sa))))
  rw [gAd_lt (gRep_lt hR hq), gAd_lt (gRep_lt hR hx2)]
  refine va_astq hC.1 hC.2.1 hC.2.2.2.2.2.1 hR.2 gWo_D hS a 4 x 7 he rfl hv (gCl_at 7 (by decide)) hin hdg (fun H1 locs1 g1 _ g3 => ?_)
  have g1 := gP_set (σ' := (Kd, I, L, gU R a i.toNatClampNeg (some x))) g1 rfl hq (by
    rw [gEt_16]
    have : (fun j => (gU R a i.toNatClampNeg (some x) a j).map (gAd base sa)) = va_up (fun j => (R a j).map (gAd base sa)) i.toNatClampNeg (some (base + x)) := by
      funext j
      by_cases hj : j = i.toNatClampNeg
      · subst hj
        simp [gU, va_up, gAd_lt (gRep_lt hR hx2)]
      · simp [gU, va_up, hj]
    show Sum.inl (_, _, _) = Sum.inl (_, _, Sum.inr (Sum.inr (Sum.inr (Sum.inr (fun j => (gU R a i.toNatClampNeg (some x) a j).map (gAd base sa))))))
    rw [this]) (fun b q' hb => gEt_congr (σ := (Kd, I, L, R)) (σ' := (Kd, I, L, gU R a i.toNatClampNeg (some x))) rfl rfl (gU_o hb) q')
  exact kk p e R0 s m args below meth c H1 locs1 cells slots base sa ca D lsM Qm hC ⟨hR.1, g1⟩ hsz g3 hc hs hl hret
theorem inv_getS {k pc nx j : Nat} (h : gF k pc = some (57, nx, j, 0, 0, 0)) : ∃ idx, decode (gCode k) pc = .ok (.getstatic idx, 3) ∧ nx = pc + 3 ∧ ∃ q, (gOwn k, idx, j, q) ∈ gZA := by
  obtain ⟨i, len, hd, hc⟩ := gF_ok h
  cases i <;> simp [gCk] at hc
  case getstatic idx =>
    obtain ⟨⟨rfl, rfl⟩, h5⟩ := hc
    exact ⟨idx, hd, rfl, gIs_spec h5⟩
  all_goals first | omega | (rename_i c0 off; have := gCc_le c0; omega) | (have := gKd_le (gTy j 0); omega)
theorem snd_getS : r_getS (gMk l X) := by
  intro d k pc nx mc ms ls st Kd I L R Q j hF kk
  intro p e R0 s m args below meth c H locs cells slots base sa ca D lsM Qm hC hR hsz hS hc hs hl hret
  obtain ⟨idx, hdg, rfl, q, hq⟩ := inv_getS hF
  have h1 := gZA_ok _ hq
  refine va_gets hC.1 hC.2.1 (hC.2.2.2.2.2.2.1.2.2.1 j h1.2.1 h1.2.2) hS hC.2.2.2.1 (hC.2.2.2.2.1 _ (gw_of (List.mem_of_getElem? h1.1) rfl)) (fun _ h => h) hdg ?_
  rw [← gAd_ge (base := base) (sa := sa) j]
  exact kk p e R0 s m args below meth c H locs cells slots base sa ca D lsM Qm hC hR hsz hS hc hs hl hret
theorem snd_sald : r_sald X (gMk l X) := by
  intro d k pc nx mc ms ls st Kd I L R Q j i hF hj hin kk
  intro p e R0 s m args below meth c H locs cells slots base sa ca D lsM Qm hC hR hsz hS hc hs hl hret
  obtain ⟨hdg, rfl⟩ := inv_iaload hF
  show W p l e R0 s m args below meth c H locs cells slots Qm (F0 m pc lsM (.int i :: .ref (gAd base sa (1000 + j)) :: st.map (gV (gAd base sa))))
  rw [gAd_ge]
  exact va_ti hC.1 hC.2.1 (hC.2.2.2.2.2.2.1.2.2.2 j hj) hS hin rfl hdg (kk p e R0 s m args below meth c H locs cells slots base sa ca D lsM Qm hC hR hsz hS hc hs hl hret)
theorem snd_alen : r_alen X (gMk l X) := by
  intro d k pc nx mc ms ls st Kd I L R Q hF kk
  intro p e R0 s m args below meth c H locs cells slots base sa ca D lsM Qm hC hR hsz hS hc hs hl hret
  obtain ⟨hdg, rfl⟩ := inv_arraylength hF
  show W p l e R0 s m args below meth c H locs cells slots Qm (F0 m pc lsM (.ref (gAd base sa (1000 + 0)) :: st.map (gV (gAd base sa))))
  rw [gAd_ge]
  exact va_tlen hC.1 hC.2.1 (hC.2.2.2.2.2.2.1.2.2.2 0 (by omega)) hS rfl hdg (kk p e R0 s m args below meth c H locs cells slots base sa ca D lsM Qm hC hR hsz hS hc hs hl hret)
theorem snd_iret : r_iret (gMk l X) := by
  intro d k pc nx ls Kd I L R Q v hF hk hq
  intro p e R0 s m args below meth c H locs cells slots base sa ca D lsM Qm hC hR hsz hS hc hs hl hret
  obtain ⟨hdg, rfl⟩ := inv_ireturn hF
  exact hret (some (.int v)) _ H locs lsM pc hq hR hsz hS ⟨hk, hdg⟩
theorem snd_lret : r_lret (gMk l X) := by
  intro d k pc nx ls Kd I L R Q v hF hk hq
  intro p e R0 s m args below meth c H locs cells slots base sa ca D lsM Qm hC hR hsz hS hc hs hl hret
  obtain ⟨hdg, rfl⟩ := inv_lreturn hF
  exact hret (some (.long v)) _ H locs lsM pc hq hR hsz hS ⟨hk, hdg⟩
theorem snd_vret : r_vret (gMk l X) := by
  intro d k pc nx ls Kd I L R Q hF hk hq
  intro p e R0 s m args below meth c H locs cells slots base sa ca D lsM Qm hC hR hsz hS hc hs hl hret
  obtain ⟨hdg, rfl⟩ := inv_return_ hF
  exact hret none _ H locs lsM pc hq hR hsz hS ⟨hk, hdg⟩
end
