theorem gCc_le (c : ClassFile.Cond) : gCc c ≤ 5 := by cases c <;> decide
theorem gKd_le (t : FieldType) : gKd t ≤ 3 := by cases t <;> simp [gKd]
theorem gw_of {w : Jvm.Cond} (h : w ∈ lw_tbl) (hg : goodWord w = true) : w ∈ gGW := List.mem_filter.mpr ⟨h, hg⟩
theorem gKI_gw {a b : Nat} {v : Int32} {q : Nat} (h : (a, b, v, q) ∈ gKI) : Cond.constant (gCn a) b v ∈ gGW := gw_of (List.mem_of_getElem? (gKI_ok _ h)) rfl
theorem gKL_gw {a b : Nat} {v : Int64} {q : Nat} (h : (a, b, v, q) ∈ gKL) : Cond.constantLong (gCn a) b v ∈ gGW := gw_of (List.mem_of_getElem? (gKL_ok _ h)) rfl
section
noncomputable def gSm (n : Nat) : Option Instr := match n with
  | 10 => some .iadd
  | 11 => some .isub
  | 12 => some .imul
  | 13 => some .iand
  | 14 => some .ior
  | 15 => some .ixor
  | 16 => some .ishl
  | 17 => some .ishr
  | 18 => some .iushr
  | 19 => some .idiv
  | 20 => some .irem
  | 21 => some .ineg
  | 22 => some .ladd
  | 23 => some .lsub
  | 24 => some .lmul
  | 25 => some .land
  | 26 => some .lor
  | 27 => some .ldiv
  | 28 => some .lshl
  | 29 => some .i2l
  | 30 => some .l2i
  | 31 => some .i2b
  | 32 => some .i2s
  | 33 => some .lcmp
  | 34 => some .dup
  | 35 => some .pop
  | 36 => some .dup2
  | 86 => some .pop2
  | 58 => some .iaload
  | 59 => some .laload
  | 60 => some .aaload
  | 61 => some .baload
  | 62 => some .saload
  | 64 => some .iastore
  | 65 => some .lastore
  | 66 => some .bastore
  | 67 => some .sastore
  | 68 => some .aastore
  | 69 => some .arraylength
  | 79 => some .ireturn
  | 80 => some .lreturn
  | 81 => some .return_
  | _ => none
theorem gSm_no {n : Nat} (h : n < 10 ∨ (36 < n ∧ n < 58) ∨ n = 63 ∨ (69 < n ∧ n < 79) ∨ (81 < n ∧ n < 86)) : gSm n = none := by
  unfold gSm
  split <;> first | rfl | (exfalso; omega)
theorem inv_s {k pc nx n : Nat} {j : Instr} (h : gF k pc = some (n, nx, 0, 0, 0, 0)) (hs : gSm n = some j) : decode (gCode k) pc = .ok (j, 1) ∧ nx = pc + 1 := by
  obtain ⟨i, len, hd, hc⟩ := gF_ok h
  cases i <;> simp [gCk] at hc
  all_goals first
    | (obtain ⟨rfl, rfl, rfl⟩ := hc; cases hs; exact ⟨hd, rfl⟩)
    | (exfalso; rw [gSm_no (by omega)] at hs; cases hs)
    | (exfalso; rename_i c0 off; have hq := gCc_le c0; rw [gSm_no (by omega)] at hs; cases hs)
    | (exfalso; have hq := gKd_le (gTy 0 0); rw [gSm_no (by omega)] at hs; cases hs)
variable {l : Launch} {X : Nat × (Nat → Int32)}
theorem inv_iadd {k pc nx : Nat} (h : gF k pc = some (10, nx, 0, 0, 0, 0)) : decode (gCode k) pc = .ok (.iadd, 1) ∧ nx = pc + 1 := inv_s h rfl
theorem inv_isub {k pc nx : Nat} (h : gF k pc = some (11, nx, 0, 0, 0, 0)) : decode (gCode k) pc = .ok (.isub, 1) ∧ nx = pc + 1 := inv_s h rfl
theorem inv_imul {k pc nx : Nat} (h : gF k pc = some (12, nx, 0, 0, 0, 0)) : decode (gCode k) pc = .ok (.imul, 1) ∧ nx = pc + 1 := inv_s h rfl
theorem inv_iand {k pc nx : Nat} (h : gF k pc = some (13, nx, 0, 0, 0, 0)) : decode (gCode k) pc = .ok (.iand, 1) ∧ nx = pc + 1 := inv_s h rfl
theorem inv_ior {k pc nx : Nat} (h : gF k pc = some (14, nx, 0, 0, 0, 0)) : decode (gCode k) pc = .ok (.ior, 1) ∧ nx = pc + 1 := inv_s h rfl
theorem inv_ixor {k pc nx : Nat} (h : gF k pc = some (15, nx, 0, 0, 0, 0)) : decode (gCode k) pc = .ok (.ixor, 1) ∧ nx = pc + 1 := inv_s h rfl
theorem inv_ishl {k pc nx : Nat} (h : gF k pc = some (16, nx, 0, 0, 0, 0)) : decode (gCode k) pc = .ok (.ishl, 1) ∧ nx = pc + 1 := inv_s h rfl
theorem inv_ishr {k pc nx : Nat} (h : gF k pc = some (17, nx, 0, 0, 0, 0)) : decode (gCode k) pc = .ok (.ishr, 1) ∧ nx = pc + 1 := inv_s h rfl
theorem inv_iushr {k pc nx : Nat} (h : gF k pc = some (18, nx, 0, 0, 0, 0)) : decode (gCode k) pc = .ok (.iushr, 1) ∧ nx = pc + 1 := inv_s h rfl
theorem inv_idiv {k pc nx : Nat} (h : gF k pc = some (19, nx, 0, 0, 0, 0)) : decode (gCode k) pc = .ok (.idiv, 1) ∧ nx = pc + 1 := inv_s h rfl
theorem inv_irem {k pc nx : Nat} (h : gF k pc = some (20, nx, 0, 0, 0, 0)) : decode (gCode k) pc = .ok (.irem, 1) ∧ nx = pc + 1 := inv_s h rfl
theorem inv_ineg {k pc nx : Nat} (h : gF k pc = some (21, nx, 0, 0, 0, 0)) : decode (gCode k) pc = .ok (.ineg, 1) ∧ nx = pc + 1 := inv_s h rfl
theorem inv_ladd {k pc nx : Nat} (h : gF k pc = some (22, nx, 0, 0, 0, 0)) : decode (gCode k) pc = .ok (.ladd, 1) ∧ nx = pc + 1 := inv_s h rfl
theorem inv_lsub {k pc nx : Nat} (h : gF k pc = some (23, nx, 0, 0, 0, 0)) : decode (gCode k) pc = .ok (.lsub, 1) ∧ nx = pc + 1 := inv_s h rfl
theorem inv_lmul {k pc nx : Nat} (h : gF k pc = some (24, nx, 0, 0, 0, 0)) : decode (gCode k) pc = .ok (.lmul, 1) ∧ nx = pc + 1 := inv_s h rfl
theorem inv_land {k pc nx : Nat} (h : gF k pc = some (25, nx, 0, 0, 0, 0)) : decode (gCode k) pc = .ok (.land, 1) ∧ nx = pc + 1 := inv_s h rfl
theorem inv_lor {k pc nx : Nat} (h : gF k pc = some (26, nx, 0, 0, 0, 0)) : decode (gCode k) pc = .ok (.lor, 1) ∧ nx = pc + 1 := inv_s h rfl
theorem inv_ldiv {k pc nx : Nat} (h : gF k pc = some (27, nx, 0, 0, 0, 0)) : decode (gCode k) pc = .ok (.ldiv, 1) ∧ nx = pc + 1 := inv_s h rfl
theorem inv_lshl {k pc nx : Nat} (h : gF k pc = some (28, nx, 0, 0, 0, 0)) : decode (gCode k) pc = .ok (.lshl, 1) ∧ nx = pc + 1 := inv_s h rfl
theorem inv_i2l {k pc nx : Nat} (h : gF k pc = some (29, nx, 0, 0, 0, 0)) : decode (gCode k) pc = .ok (.i2l, 1) ∧ nx = pc + 1 := inv_s h rfl
theorem inv_l2i {k pc nx : Nat} (h : gF k pc = some (30, nx, 0, 0, 0, 0)) : decode (gCode k) pc = .ok (.l2i, 1) ∧ nx = pc + 1 := inv_s h rfl
theorem inv_i2b {k pc nx : Nat} (h : gF k pc = some (31, nx, 0, 0, 0, 0)) : decode (gCode k) pc = .ok (.i2b, 1) ∧ nx = pc + 1 := inv_s h rfl
theorem inv_i2s {k pc nx : Nat} (h : gF k pc = some (32, nx, 0, 0, 0, 0)) : decode (gCode k) pc = .ok (.i2s, 1) ∧ nx = pc + 1 := inv_s h rfl
theorem inv_lcmp {k pc nx : Nat} (h : gF k pc = some (33, nx, 0, 0, 0, 0)) : decode (gCode k) pc = .ok (.lcmp, 1) ∧ nx = pc + 1 := inv_s h rfl
theorem inv_dup {k pc nx : Nat} (h : gF k pc = some (34, nx, 0, 0, 0, 0)) : decode (gCode k) pc = .ok (.dup, 1) ∧ nx = pc + 1 := inv_s h rfl
theorem inv_pop {k pc nx : Nat} (h : gF k pc = some (35, nx, 0, 0, 0, 0)) : decode (gCode k) pc = .ok (.pop, 1) ∧ nx = pc + 1 := inv_s h rfl
theorem inv_dup2 {k pc nx : Nat} (h : gF k pc = some (36, nx, 0, 0, 0, 0)) : decode (gCode k) pc = .ok (.dup2, 1) ∧ nx = pc + 1 := inv_s h rfl
theorem inv_pop2 {k pc nx : Nat} (h : gF k pc = some (86, nx, 0, 0, 0, 0)) : decode (gCode k) pc = .ok (.pop2, 1) ∧ nx = pc + 1 := inv_s h rfl
theorem inv_iaload {k pc nx : Nat} (h : gF k pc = some (58, nx, 0, 0, 0, 0)) : decode (gCode k) pc = .ok (.iaload, 1) ∧ nx = pc + 1 := inv_s h rfl
theorem inv_laload {k pc nx : Nat} (h : gF k pc = some (59, nx, 0, 0, 0, 0)) : decode (gCode k) pc = .ok (.laload, 1) ∧ nx = pc + 1 := inv_s h rfl
theorem inv_aaload {k pc nx : Nat} (h : gF k pc = some (60, nx, 0, 0, 0, 0)) : decode (gCode k) pc = .ok (.aaload, 1) ∧ nx = pc + 1 := inv_s h rfl
theorem inv_baload {k pc nx : Nat} (h : gF k pc = some (61, nx, 0, 0, 0, 0)) : decode (gCode k) pc = .ok (.baload, 1) ∧ nx = pc + 1 := inv_s h rfl
theorem inv_saload {k pc nx : Nat} (h : gF k pc = some (62, nx, 0, 0, 0, 0)) : decode (gCode k) pc = .ok (.saload, 1) ∧ nx = pc + 1 := inv_s h rfl
theorem inv_iastore {k pc nx : Nat} (h : gF k pc = some (64, nx, 0, 0, 0, 0)) : decode (gCode k) pc = .ok (.iastore, 1) ∧ nx = pc + 1 := inv_s h rfl
theorem inv_lastore {k pc nx : Nat} (h : gF k pc = some (65, nx, 0, 0, 0, 0)) : decode (gCode k) pc = .ok (.lastore, 1) ∧ nx = pc + 1 := inv_s h rfl
theorem inv_bastore {k pc nx : Nat} (h : gF k pc = some (66, nx, 0, 0, 0, 0)) : decode (gCode k) pc = .ok (.bastore, 1) ∧ nx = pc + 1 := inv_s h rfl
theorem inv_sastore {k pc nx : Nat} (h : gF k pc = some (67, nx, 0, 0, 0, 0)) : decode (gCode k) pc = .ok (.sastore, 1) ∧ nx = pc + 1 := inv_s h rfl
theorem inv_aastore {k pc nx : Nat} (h : gF k pc = some (68, nx, 0, 0, 0, 0)) : decode (gCode k) pc = .ok (.aastore, 1) ∧ nx = pc + 1 := inv_s h rfl
theorem inv_arraylength {k pc nx : Nat} (h : gF k pc = some (69, nx, 0, 0, 0, 0)) : decode (gCode k) pc = .ok (.arraylength, 1) ∧ nx = pc + 1 := inv_s h rfl
theorem inv_ireturn {k pc nx : Nat} (h : gF k pc = some (79, nx, 0, 0, 0, 0)) : decode (gCode k) pc = .ok (.ireturn, 1) ∧ nx = pc + 1 := inv_s h rfl
theorem inv_lreturn {k pc nx : Nat} (h : gF k pc = some (80, nx, 0, 0, 0, 0)) : decode (gCode k) pc = .ok (.lreturn, 1) ∧ nx = pc + 1 := inv_s h rfl
theorem inv_return_ {k pc nx : Nat} (h : gF k pc = some (81, nx, 0, 0, 0, 0)) : decode (gCode k) pc = .ok (.return_, 1) ∧ nx = pc + 1 := inv_s h rfl
theorem snd_iadd : r_iadd (gMk l X) := by
  intro d k pc nx mc ms ls st Kd I L R Q x y hF kk
  refine gMk_step ?_ kk
  intro p e R s m args below meth c H locs cells slots base sa ca D lsM Qm ad hx hb hml hC hcc hss hl kk
  obtain ⟨hdg, rfl⟩ := inv_iadd hF
  exact lv_iadd hx hb hdg (kk lsM hl)
theorem snd_isub : r_isub (gMk l X) := by
  intro d k pc nx mc ms ls st Kd I L R Q x y hF kk
  refine gMk_step ?_ kk
  intro p e R s m args below meth c H locs cells slots base sa ca D lsM Qm ad hx hb hml hC hcc hss hl kk
  obtain ⟨hdg, rfl⟩ := inv_isub hF
  exact lv_isub hx hb hdg (kk lsM hl)
theorem snd_imul : r_imul (gMk l X) := by
  intro d k pc nx mc ms ls st Kd I L R Q x y hF kk
  refine gMk_step ?_ kk
  intro p e R s m args below meth c H locs cells slots base sa ca D lsM Qm ad hx hb hml hC hcc hss hl kk
  obtain ⟨hdg, rfl⟩ := inv_imul hF
  exact lv_imul hx hb hdg (kk lsM hl)
theorem snd_iand : r_iand (gMk l X) := by
  intro d k pc nx mc ms ls st Kd I L R Q x y hF kk
  refine gMk_step ?_ kk
  intro p e R s m args below meth c H locs cells slots base sa ca D lsM Qm ad hx hb hml hC hcc hss hl kk
  obtain ⟨hdg, rfl⟩ := inv_iand hF
  exact lv_iand hx hb hdg (kk lsM hl)
theorem snd_ior : r_ior (gMk l X) := by
  intro d k pc nx mc ms ls st Kd I L R Q x y hF kk
  refine gMk_step ?_ kk
  intro p e R s m args below meth c H locs cells slots base sa ca D lsM Qm ad hx hb hml hC hcc hss hl kk
  obtain ⟨hdg, rfl⟩ := inv_ior hF
  exact lv_ior hx hb hdg (kk lsM hl)
theorem snd_ixor : r_ixor (gMk l X) := by
  intro d k pc nx mc ms ls st Kd I L R Q x y hF kk
  refine gMk_step ?_ kk
  intro p e R s m args below meth c H locs cells slots base sa ca D lsM Qm ad hx hb hml hC hcc hss hl kk
  obtain ⟨hdg, rfl⟩ := inv_ixor hF
  exact lv_ixor hx hb hdg (kk lsM hl)
theorem snd_ishl : r_ishl (gMk l X) := by
  intro d k pc nx mc ms ls st Kd I L R Q x y hF kk
  refine gMk_step ?_ kk
  intro p e R s m args below meth c H locs cells slots base sa ca D lsM Qm ad hx hb hml hC hcc hss hl kk
  obtain ⟨hdg, rfl⟩ := inv_ishl hF
  exact lv_ishl hx hb hdg (kk lsM hl)
theorem snd_ishr : r_ishr (gMk l X) := by
  intro d k pc nx mc ms ls st Kd I L R Q x y hF kk
  refine gMk_step ?_ kk
  intro p e R s m args below meth c H locs cells slots base sa ca D lsM Qm ad hx hb hml hC hcc hss hl kk
  obtain ⟨hdg, rfl⟩ := inv_ishr hF
  exact lv_ishr hx hb hdg (kk lsM hl)
theorem snd_ladd : r_ladd (gMk l X) := by
  intro d k pc nx mc ms ls st Kd I L R Q x y hF kk
  refine gMk_step ?_ kk
  intro p e R s m args below meth c H locs cells slots base sa ca D lsM Qm ad hx hb hml hC hcc hss hl kk
  obtain ⟨hdg, rfl⟩ := inv_ladd hF
  exact lv_ladd hx hb hdg (kk lsM hl)
theorem snd_lsub : r_lsub (gMk l X) := by
  intro d k pc nx mc ms ls st Kd I L R Q x y hF kk
  refine gMk_step ?_ kk
  intro p e R s m args below meth c H locs cells slots base sa ca D lsM Qm ad hx hb hml hC hcc hss hl kk
  obtain ⟨hdg, rfl⟩ := inv_lsub hF
  exact lv_lsub hx hb hdg (kk lsM hl)
theorem snd_lmul : r_lmul (gMk l X) := by
  intro d k pc nx mc ms ls st Kd I L R Q x y hF kk
  refine gMk_step ?_ kk
  intro p e R s m args below meth c H locs cells slots base sa ca D lsM Qm ad hx hb hml hC hcc hss hl kk
  obtain ⟨hdg, rfl⟩ := inv_lmul hF
  exact lv_lmul hx hb hdg (kk lsM hl)
theorem snd_land : r_land (gMk l X) := by
  intro d k pc nx mc ms ls st Kd I L R Q x y hF kk
  refine gMk_step ?_ kk
  intro p e R s m args below meth c H locs cells slots base sa ca D lsM Qm ad hx hb hml hC hcc hss hl kk
  obtain ⟨hdg, rfl⟩ := inv_land hF
  exact lv_land hx hb hdg (kk lsM hl)
theorem snd_lor : r_lor (gMk l X) := by
  intro d k pc nx mc ms ls st Kd I L R Q x y hF kk
  refine gMk_step ?_ kk
  intro p e R s m args below meth c H locs cells slots base sa ca D lsM Qm ad hx hb hml hC hcc hss hl kk
  obtain ⟨hdg, rfl⟩ := inv_lor hF
  exact lv_lor hx hb hdg (kk lsM hl)
theorem snd_iushr : r_iushr (gMk l X) := by
  intro d k pc nx mc ms ls st Kd I L R Q x y hF kk
  refine gMk_step ?_ kk
  intro p e R s m args below meth c H locs cells slots base sa ca D lsM Qm ad hx hb hml hC hcc hss hl kk
  obtain ⟨hdg, rfl⟩ := inv_iushr hF
  exact lv_iushr hx hb hdg rfl (kk lsM hl)
theorem snd_ineg : r_ineg (gMk l X) := by
  intro d k pc nx mc ms ls st Kd I L R Q x hF kk
  refine gMk_step ?_ kk
  intro p e R s m args below meth c H locs cells slots base sa ca D lsM Qm ad hx hb hml hC hcc hss hl kk
  obtain ⟨hdg, rfl⟩ := inv_ineg hF
  exact lv_ineg hx hb hdg (kk lsM hl)
theorem snd_idiv : r_idiv (gMk l X) := by
  intro d k pc nx mc ms ls st Kd I L R Q x y hF hne kk
  refine gMk_step ?_ kk
  intro p e R s m args below meth c H locs cells slots base sa ca D lsM Qm ad hx hb hml hC hcc hss hl kk
  obtain ⟨hdg, rfl⟩ := inv_idiv hF
  exact lv_idiv hx hb hdg hne (kk lsM hl)
theorem snd_irem : r_irem (gMk l X) := by
  intro d k pc nx mc ms ls st Kd I L R Q x y hF hne kk
  refine gMk_step ?_ kk
  intro p e R s m args below meth c H locs cells slots base sa ca D lsM Qm ad hx hb hml hC hcc hss hl kk
  obtain ⟨hdg, rfl⟩ := inv_irem hF
  exact lv_irem hx hb hdg hne (kk lsM hl)
theorem snd_ldiv : r_ldiv (gMk l X) := by
  intro d k pc nx mc ms ls st Kd I L R Q x y hF hne kk
  refine gMk_step ?_ kk
  intro p e R s m args below meth c H locs cells slots base sa ca D lsM Qm ad hx hb hml hC hcc hss hl kk
  obtain ⟨hdg, rfl⟩ := inv_ldiv hF
  exact lv_ldiv hx hb hdg hne (kk lsM hl)
theorem snd_lshl : r_lshl (gMk l X) := by
  intro d k pc nx mc ms ls st Kd I L R Q x y hF kk
  refine gMk_step ?_ kk
  intro p e R s m args below meth c H locs cells slots base sa ca D lsM Qm ad hx hb hml hC hcc hss hl kk
  obtain ⟨hdg, rfl⟩ := inv_lshl hF
  exact lv_lshl hx hb hdg rfl (kk lsM hl)
theorem snd_i2l : r_i2l (gMk l X) := by
  intro d k pc nx mc ms ls st Kd I L R Q x hF kk
  refine gMk_step ?_ kk
  intro p e R s m args below meth c H locs cells slots base sa ca D lsM Qm ad hx hb hml hC hcc hss hl kk
  obtain ⟨hdg, rfl⟩ := inv_i2l hF
  exact lv_i2l hx hb hdg rfl (kk lsM hl)
theorem snd_l2i : r_l2i (gMk l X) := by
  intro d k pc nx mc ms ls st Kd I L R Q x hF kk
  refine gMk_step ?_ kk
  intro p e R s m args below meth c H locs cells slots base sa ca D lsM Qm ad hx hb hml hC hcc hss hl kk
  obtain ⟨hdg, rfl⟩ := inv_l2i hF
  exact lv_l2i hx hb hdg rfl (kk lsM hl)
theorem snd_i2b : r_i2b (gMk l X) := by
  intro d k pc nx mc ms ls st Kd I L R Q x hF kk
  refine gMk_step ?_ kk
  intro p e R s m args below meth c H locs cells slots base sa ca D lsM Qm ad hx hb hml hC hcc hss hl kk
  obtain ⟨hdg, rfl⟩ := inv_i2b hF
  exact lv_i2b hx hb hdg rfl (kk lsM hl)
theorem snd_i2s : r_i2s (gMk l X) := by
  intro d k pc nx mc ms ls st Kd I L R Q x hF kk
  refine gMk_step ?_ kk
  intro p e R s m args below meth c H locs cells slots base sa ca D lsM Qm ad hx hb hml hC hcc hss hl kk
  obtain ⟨hdg, rfl⟩ := inv_i2s hF
  exact lv_i2s hx hb hdg rfl (kk lsM hl)
theorem snd_lcmp : r_lcmp (gMk l X) := by
  intro d k pc nx mc ms ls st Kd I L R Q x y hF kk
  refine gMk_step ?_ kk
  intro p e R s m args below meth c H locs cells slots base sa ca D lsM Qm ad hx hb hml hC hcc hss hl kk
  obtain ⟨hdg, rfl⟩ := inv_lcmp hF
  exact W.lcmp hx hb hdg (kk lsM hl)
theorem snd_dup : r_dup (gMk l X) := by
  intro d k pc nx mc ms ls st Kd I L R Q x hF hv kk
  refine gMk_step ?_ kk
  intro p e R s m args below meth c H locs cells slots base sa ca D lsM Qm ad hx hb hml hC hcc hss hl kk
  obtain ⟨hdg, rfl⟩ := inv_dup hF
  exact lv_dup hx hb hdg (by rw [gV_cat]; exact hv) (kk lsM hl)
theorem snd_pop : r_pop (gMk l X) := by
  intro d k pc nx mc ms ls st Kd I L R Q x hF hv kk
  refine gMk_step ?_ kk
  intro p e R s m args below meth c H locs cells slots base sa ca D lsM Qm ad hx hb hml hC hcc hss hl kk
  obtain ⟨hdg, rfl⟩ := inv_pop hF
  exact lv_pop hx hb hdg (by rw [gV_cat]; exact hv) (kk lsM hl)
theorem snd_pop2 : r_pop2 (gMk l X) := by
  intro d k pc nx mc ms ls st Kd I L R Q x hF hv kk
  refine gMk_step ?_ kk
  intro p e R s m args below meth c H locs cells slots base sa ca D lsM Qm ad hx hb hml hC hcc hss hl kk
  obtain ⟨hdg, rfl⟩ := inv_pop2 hF
  exact lv_pop2_2 hx hb hdg (by rw [gV_cat]; exact hv) (kk lsM hl)
theorem snd_dup2 : r_dup2 (gMk l X) := by
  intro d k pc nx mc ms ls st Kd I L R Q x y hF hv hw kk
  refine gMk_step ?_ kk
  intro p e R s m args below meth c H locs cells slots base sa ca D lsM Qm ad hx hb hml hC hcc hss hl kk
  obtain ⟨hdg, rfl⟩ := inv_dup2 hF
  exact lv_dup2_11 hx hb hdg (by rw [gV_cat]; exact hv) (by rw [gV_cat]; exact hw) (kk lsM hl)
theorem snd_pushI : r_pushI (gMk l X) := by
  intro d k pc nx mc ms ls st Kd I L R Q v hF kk
  refine gMk_step ?_ kk
  intro p e R s m args below meth c H locs cells slots base sa ca D lsM Qm ad hx hb hml hC hcc hss hl kk
  obtain ⟨i, len, hdg, hc⟩ := gF_ok hF
  cases i <;> simp [gCk, gCc] at hc
  all_goals first
    | (obtain ⟨rfl, rfl, hv⟩ := hc; exact lv_iconst hx hb hdg hv.symm (kk lsM hl))
    | (obtain ⟨rfl, rfl, hv⟩ := hc; exact lv_bipush hx hb hdg hv.symm (kk lsM hl))
    | (obtain ⟨rfl, rfl, hv⟩ := hc; exact lv_sipush hx hb hdg hv.symm (kk lsM hl))
    | (obtain ⟨⟨rfl, rfl⟩, a1, b1, c1, ⟨x1, hm⟩, rfl, rfl, rfl⟩ := hc; exact lv_ldc hx hb hC.2.2.2.1 (hC.2.2.2.2.1 _ (gKI_gw hm)) hdg (kk lsM hl))
    | (obtain ⟨⟨rfl, rfl⟩, a1, b1, c1, ⟨x1, hm⟩, rfl, rfl, rfl⟩ := hc; exact lv_ldcw hx hb hC.2.2.2.1 (hC.2.2.2.2.1 _ (gKI_gw hm)) hdg (kk lsM hl))
    | omega
theorem snd_pushL : r_pushL (gMk l X) := by
  intro d k pc nx mc ms ls st Kd I L R Q w hF kk
  refine gMk_step ?_ kk
  intro p e R s m args below meth c H locs cells slots base sa ca D lsM Qm ad hx hb hml hC hcc hss hl kk
  obtain ⟨i, len, hdg, hc⟩ := gF_ok hF
  cases i <;> simp [gCk, gCc] at hc
  all_goals first
    | (obtain ⟨rfl, rfl, hv⟩ := hc; exact lv_lconst hx hb hdg hv.symm (kk lsM hl))
    | (obtain ⟨⟨rfl, rfl⟩, a1, b1, c1, ⟨x1, hm⟩, rfl, rfl, rfl⟩ := hc; exact lv_ldc2 hx hb hC.2.2.2.1 (hC.2.2.2.2.1 _ (gKL_gw hm)) hdg (kk lsM hl))
    | omega
theorem snd_iload : r_iload (gMk l X) := by
  intro d k pc nx mc ms ls st Kd I L R Q i x hF hi kk
  refine gMk_step ?_ kk
  intro p e R s m args below meth c H locs cells slots base sa ca D lsM Qm ad hx hb hml hC hcc hss hl kk
  obtain ⟨i, len, hdg, hc⟩ := gF_ok hF
  cases i <;> simp [gCk, gCc] at hc
  all_goals first
    | (obtain ⟨rfl, rfl, rfl⟩ := hc; exact lv_iload hx hb hdg (gLof_at hl hi) (kk lsM hl))
    | (obtain ⟨rfl, rfl, rfl⟩ := hc; exact lv_iload_n hx hb hdg rfl (gLof_at hl hi) (kk lsM hl))
    | omega
theorem snd_lload : r_lload (gMk l X) := by
  intro d k pc nx mc ms ls st Kd I L R Q i x hF hi kk
  refine gMk_step ?_ kk
  intro p e R s m args below meth c H locs cells slots base sa ca D lsM Qm ad hx hb hml hC hcc hss hl kk
  obtain ⟨i, len, hdg, hc⟩ := gF_ok hF
  cases i <;> simp [gCk, gCc] at hc
  all_goals first
    | (obtain ⟨rfl, rfl, rfl⟩ := hc; exact lv_lload hx hb hdg (gLof_at hl hi) (kk lsM hl))
    | (obtain ⟨rfl, rfl, rfl⟩ := hc; exact lv_lload_n hx hb hdg rfl (gLof_at hl hi) (kk lsM hl))
    | omega
theorem snd_aload : r_aload (gMk l X) := by
  intro d k pc nx mc ms ls st Kd I L R Q i x hF hi kk
  refine gMk_step ?_ kk
  intro p e R s m args below meth c H locs cells slots base sa ca D lsM Qm ad hx hb hml hC hcc hss hl kk
  obtain ⟨i, len, hdg, hc⟩ := gF_ok hF
  cases i <;> simp [gCk, gCc] at hc
  all_goals first
    | (obtain ⟨rfl, rfl, rfl⟩ := hc; exact lv_aload hx hb hdg (gLof_at hl hi) (kk lsM hl))
    | (obtain ⟨rfl, rfl, rfl⟩ := hc; exact lv_aload_n hx hb hdg rfl (gLof_at hl hi) (kk lsM hl))
    | omega
theorem snd_istore : r_istore (gMk l X) := by
  intro d k pc nx mc ms ls st Kd I L R Q i x ls1 hF hi kk
  refine gMk_step ?_ kk
  intro p e R s m args below meth c H locs cells slots base sa ca D lsM Qm ad hx hb hml hC hcc hss hl kk
  obtain ⟨i, len, hdg, hc⟩ := gF_ok hF
  cases i <;> simp [gCk, gCc] at hc
  all_goals first
    | (obtain ⟨rfl, hn, rfl, rfl⟩ := hc; subst hi; exact lv_istore hx hb hdg hl (by omega) rfl (fun ls2 hl2 => kk ls2 (lv_less hl2 (gSet_1 (v := .int x) rfl))))
    | (obtain ⟨rfl, hn, rfl, rfl⟩ := hc; subst hi; exact lv_istore_n hx hb hdg rfl hl (by omega) rfl (fun ls2 hl2 => kk ls2 (lv_less hl2 (gSet_1 (v := .int x) rfl))))
    | omega
theorem snd_astore : r_astore (gMk l X) := by
  intro d k pc nx mc ms ls st Kd I L R Q i x ls1 hF hi kk
  refine gMk_step ?_ kk
  intro p e R s m args below meth c H locs cells slots base sa ca D lsM Qm ad hx hb hml hC hcc hss hl kk
  obtain ⟨i, len, hdg, hc⟩ := gF_ok hF
  cases i <;> simp [gCk, gCc] at hc
  all_goals first
    | (obtain ⟨rfl, hn, rfl, rfl⟩ := hc; subst hi; exact lv_astore hx hb hdg hl (by omega) rfl (fun ls2 hl2 => kk ls2 (lv_less hl2 (gSet_1 (v := .ref x) rfl))))
    | (obtain ⟨rfl, hn, rfl, rfl⟩ := hc; subst hi; exact lv_astore_n hx hb hdg rfl hl (by omega) rfl (fun ls2 hl2 => kk ls2 (lv_less hl2 (gSet_1 (v := .ref x) rfl))))
    | omega
theorem snd_lstore : r_lstore (gMk l X) := by
  intro d k pc nx mc ms ls st Kd I L R Q i x ls1 hF hi kk
  refine gMk_step ?_ kk
  intro p e R s m args below meth c H locs cells slots base sa ca D lsM Qm ad hx hb hml hC hcc hss hl kk
  obtain ⟨i, len, hdg, hc⟩ := gF_ok hF
  cases i <;> simp [gCk, gCc] at hc
  all_goals first
    | (obtain ⟨rfl, hn, rfl, rfl⟩ := hc; subst hi; exact lv_lstore hx hb hdg hl (by omega) rfl (fun ls2 hl2 => kk ls2 (lv_less hl2 (gSet_2 (v := .long x) rfl))))
    | (obtain ⟨rfl, hn, rfl, rfl⟩ := hc; subst hi; exact lv_lstore_n hx hb hdg rfl hl (by omega) rfl (fun ls2 hl2 => kk ls2 (lv_less hl2 (gSet_2 (v := .long x) rfl))))
    | omega
theorem snd_iinc : r_iinc (gMk l X) := by
  intro d k pc nx mc ms ls st Kd I L R Q i x v ls1 hF hi hs kk
  refine gMk_step ?_ kk
  intro p e R s m args below meth c H locs cells slots base sa ca D lsM Qm ad hx hb hml hC hcc hss hl kk
  obtain ⟨i0, len, hdg, hc⟩ := gF_ok hF
  cases i0 <;> simp [gCk, gCc] at hc
  all_goals first
    | (obtain ⟨rfl, hn, rfl, rfl, hv⟩ := hc
       subst hs
       obtain ⟨k0, hk0⟩ := List.getElem?_of_mem (gLof_mem (ad := ad).mpr ⟨_, hi, rfl⟩ : (_, gV ad (.int x)) ∈ gLof ad ls)
       exact lv_iinc hx hb hdg hl hk0 (by rw [← hv]) hn rfl (fun ls2 hl2 => kk ls2 (lv_less hl2 (gSet_1 (v := .int (x + v)) rfl))))
    | omega
theorem snd_goto : r_goto (gMk l X) := by
  intro d k pc nx mc ms ls st Kd I L R Q hF kk
  refine gMk_step ?_ kk
  intro p e R s m args below meth c H locs cells slots base sa ca D lsM Qm ad hx hb hml hC hcc hss hl kk
  obtain ⟨i, len, hdg, hc⟩ := gF_ok hF
  cases i <;> simp [gCk, gCc] at hc
  all_goals first
    | (obtain ⟨rfl, ht⟩ := hc; exact lv_goto hx hb hdg ht (kk lsM hl))
    | omega
theorem inv_if_eq {k pc nx tg : Nat} (h : gF k pc = some (38, nx, 0, tg, 0, 0)) : ∃ off : Int, decode (gCode k) pc = .ok (.ifCond .eq off, 3) ∧ (pc : Int) + off = (tg : Int) ∧ nx = pc + 3 := by
  obtain ⟨i, len, hd, hc⟩ := gF_ok h
  cases i <;> simp [gCk] at hc
  case ifCond c0 off =>
    cases c0 <;> simp [gCc] at hc
    obtain ⟨rfl, h1, rfl⟩ := hc
    exact ⟨off, hd, h1, rfl⟩
  all_goals first
    | omega
    | (rename_i c0 off; cases c0 <;> simp [gCc] at hc)
theorem snd_if_eq : r_if_eq (gMk l X) := by
  intro d k pc nx mc ms ls st Kd I L R Q x tg hF kt kf
  intro p e R s m args below meth c H locs cells slots base sa ca D lsM Qm hC hR hsz hS hc hs hl hret
  obtain ⟨off, hdg, ht, rfl⟩ := inv_if_eq hF
  exact lv_if_eq hC.1 hC.2.1 hdg ht (fun h => kt h p e R s m args below meth c H locs cells slots base sa ca D lsM Qm hC hR hsz hS hc hs hl hret) (fun h => kf h p e R s m args below meth c H locs cells slots base sa ca D lsM Qm hC hR hsz hS hc hs hl hret)
theorem inv_if_ne {k pc nx tg : Nat} (h : gF k pc = some (39, nx, 0, tg, 0, 0)) : ∃ off : Int, decode (gCode k) pc = .ok (.ifCond .ne off, 3) ∧ (pc : Int) + off = (tg : Int) ∧ nx = pc + 3 := by
  obtain ⟨i, len, hd, hc⟩ := gF_ok h
  cases i <;> simp [gCk] at hc
  case ifCond c0 off =>
    cases c0 <;> simp [gCc] at hc
    obtain ⟨rfl, h1, rfl⟩ := hc
    exact ⟨off, hd, h1, rfl⟩
  all_goals first
    | omega
    | (rename_i c0 off; cases c0 <;> simp [gCc] at hc)
theorem snd_if_ne : r_if_ne (gMk l X) := by
  intro d k pc nx mc ms ls st Kd I L R Q x tg hF kt kf
  intro p e R s m args below meth c H locs cells slots base sa ca D lsM Qm hC hR hsz hS hc hs hl hret
  obtain ⟨off, hdg, ht, rfl⟩ := inv_if_ne hF
  exact lv_if_ne hC.1 hC.2.1 hdg ht (fun h => kt h p e R s m args below meth c H locs cells slots base sa ca D lsM Qm hC hR hsz hS hc hs hl hret) (fun h => kf h p e R s m args below meth c H locs cells slots base sa ca D lsM Qm hC hR hsz hS hc hs hl hret)
theorem inv_if_lt {k pc nx tg : Nat} (h : gF k pc = some (40, nx, 0, tg, 0, 0)) : ∃ off : Int, decode (gCode k) pc = .ok (.ifCond .lt off, 3) ∧ (pc : Int) + off = (tg : Int) ∧ nx = pc + 3 := by
  obtain ⟨i, len, hd, hc⟩ := gF_ok h
  cases i <;> simp [gCk] at hc
  case ifCond c0 off =>
    cases c0 <;> simp [gCc] at hc
    obtain ⟨rfl, h1, rfl⟩ := hc
    exact ⟨off, hd, h1, rfl⟩
  all_goals first
    | omega
    | (rename_i c0 off; cases c0 <;> simp [gCc] at hc)
theorem snd_if_lt : r_if_lt (gMk l X) := by
  intro d k pc nx mc ms ls st Kd I L R Q x tg hF kt kf
  intro p e R s m args below meth c H locs cells slots base sa ca D lsM Qm hC hR hsz hS hc hs hl hret
  obtain ⟨off, hdg, ht, rfl⟩ := inv_if_lt hF
  exact lv_if_lt hC.1 hC.2.1 hdg ht (fun h => kt h p e R s m args below meth c H locs cells slots base sa ca D lsM Qm hC hR hsz hS hc hs hl hret) (fun h => kf h p e R s m args below meth c H locs cells slots base sa ca D lsM Qm hC hR hsz hS hc hs hl hret)
theorem inv_if_ge {k pc nx tg : Nat} (h : gF k pc = some (41, nx, 0, tg, 0, 0)) : ∃ off : Int, decode (gCode k) pc = .ok (.ifCond .ge off, 3) ∧ (pc : Int) + off = (tg : Int) ∧ nx = pc + 3 := by
  obtain ⟨i, len, hd, hc⟩ := gF_ok h
  cases i <;> simp [gCk] at hc
  case ifCond c0 off =>
    cases c0 <;> simp [gCc] at hc
    obtain ⟨rfl, h1, rfl⟩ := hc
    exact ⟨off, hd, h1, rfl⟩
  all_goals first
    | omega
    | (rename_i c0 off; cases c0 <;> simp [gCc] at hc)
theorem snd_if_ge : r_if_ge (gMk l X) := by
  intro d k pc nx mc ms ls st Kd I L R Q x tg hF kt kf
  intro p e R s m args below meth c H locs cells slots base sa ca D lsM Qm hC hR hsz hS hc hs hl hret
  obtain ⟨off, hdg, ht, rfl⟩ := inv_if_ge hF
  exact lv_if_ge hC.1 hC.2.1 hdg ht (fun h => kt h p e R s m args below meth c H locs cells slots base sa ca D lsM Qm hC hR hsz hS hc hs hl hret) (fun h => kf h p e R s m args below meth c H locs cells slots base sa ca D lsM Qm hC hR hsz hS hc hs hl hret)
theorem inv_if_gt {k pc nx tg : Nat} (h : gF k pc = some (42, nx, 0, tg, 0, 0)) : ∃ off : Int, decode (gCode k) pc = .ok (.ifCond .gt off, 3) ∧ (pc : Int) + off = (tg : Int) ∧ nx = pc + 3 := by
  obtain ⟨i, len, hd, hc⟩ := gF_ok h
  cases i <;> simp [gCk] at hc
  case ifCond c0 off =>
    cases c0 <;> simp [gCc] at hc
    obtain ⟨rfl, h1, rfl⟩ := hc
    exact ⟨off, hd, h1, rfl⟩
  all_goals first
    | omega
    | (rename_i c0 off; cases c0 <;> simp [gCc] at hc)
theorem snd_if_gt : r_if_gt (gMk l X) := by
  intro d k pc nx mc ms ls st Kd I L R Q x tg hF kt kf
  intro p e R s m args below meth c H locs cells slots base sa ca D lsM Qm hC hR hsz hS hc hs hl hret
  obtain ⟨off, hdg, ht, rfl⟩ := inv_if_gt hF
  exact lv_if_gt hC.1 hC.2.1 hdg ht (fun h => kt h p e R s m args below meth c H locs cells slots base sa ca D lsM Qm hC hR hsz hS hc hs hl hret) (fun h => kf h p e R s m args below meth c H locs cells slots base sa ca D lsM Qm hC hR hsz hS hc hs hl hret)
theorem inv_if_le {k pc nx tg : Nat} (h : gF k pc = some (43, nx, 0, tg, 0, 0)) : ∃ off : Int, decode (gCode k) pc = .ok (.ifCond .le off, 3) ∧ (pc : Int) + off = (tg : Int) ∧ nx = pc + 3 := by
  obtain ⟨i, len, hd, hc⟩ := gF_ok h
  cases i <;> simp [gCk] at hc
  case ifCond c0 off =>
    cases c0 <;> simp [gCc] at hc
    obtain ⟨rfl, h1, rfl⟩ := hc
    exact ⟨off, hd, h1, rfl⟩
  all_goals first
    | omega
    | (rename_i c0 off; cases c0 <;> simp [gCc] at hc)
theorem snd_if_le : r_if_le (gMk l X) := by
  intro d k pc nx mc ms ls st Kd I L R Q x tg hF kt kf
  intro p e R s m args below meth c H locs cells slots base sa ca D lsM Qm hC hR hsz hS hc hs hl hret
  obtain ⟨off, hdg, ht, rfl⟩ := inv_if_le hF
  exact lv_if_le hC.1 hC.2.1 hdg ht (fun h => kt h p e R s m args below meth c H locs cells slots base sa ca D lsM Qm hC hR hsz hS hc hs hl hret) (fun h => kf h p e R s m args below meth c H locs cells slots base sa ca D lsM Qm hC hR hsz hS hc hs hl hret)
theorem inv_icmp_eq {k pc nx tg : Nat} (h : gF k pc = some (44, nx, 0, tg, 0, 0)) : ∃ off : Int, decode (gCode k) pc = .ok (.if_icmp .eq off, 3) ∧ (pc : Int) + off = (tg : Int) ∧ nx = pc + 3 := by
  obtain ⟨i, len, hd, hc⟩ := gF_ok h
  cases i <;> simp [gCk] at hc
  case if_icmp c0 off =>
    cases c0 <;> simp [gCc] at hc
    obtain ⟨rfl, h1, rfl⟩ := hc
    exact ⟨off, hd, h1, rfl⟩
  all_goals first
    | omega
    | (rename_i c0 off; cases c0 <;> simp [gCc] at hc)
theorem snd_icmp_eq : r_icmp_eq (gMk l X) := by
  intro d k pc nx mc ms ls st Kd I L R Q x y tg hF kt kf
  intro p e R s m args below meth c H locs cells slots base sa ca D lsM Qm hC hR hsz hS hc hs hl hret
  obtain ⟨off, hdg, ht, rfl⟩ := inv_icmp_eq hF
  exact lv_icmp_eq hC.1 hC.2.1 hdg ht (fun h => kt h p e R s m args below meth c H locs cells slots base sa ca D lsM Qm hC hR hsz hS hc hs hl hret) (fun h => kf h p e R s m args below meth c H locs cells slots base sa ca D lsM Qm hC hR hsz hS hc hs hl hret)
theorem inv_icmp_ne {k pc nx tg : Nat} (h : gF k pc = some (45, nx, 0, tg, 0, 0)) : ∃ off : Int, decode (gCode k) pc = .ok (.if_icmp .ne off, 3) ∧ (pc : Int) + off = (tg : Int) ∧ nx = pc + 3 := by
  obtain ⟨i, len, hd, hc⟩ := gF_ok h
  cases i <;> simp [gCk] at hc
  case if_icmp c0 off =>
    cases c0 <;> simp [gCc] at hc
    obtain ⟨rfl, h1, rfl⟩ := hc
    exact ⟨off, hd, h1, rfl⟩
  all_goals first
    | omega
    | (rename_i c0 off; cases c0 <;> simp [gCc] at hc)
theorem snd_icmp_ne : r_icmp_ne (gMk l X) := by
  intro d k pc nx mc ms ls st Kd I L R Q x y tg hF kt kf
  intro p e R s m args below meth c H locs cells slots base sa ca D lsM Qm hC hR hsz hS hc hs hl hret
  obtain ⟨off, hdg, ht, rfl⟩ := inv_icmp_ne hF
  exact lv_icmp_ne hC.1 hC.2.1 hdg ht (fun h => kt h p e R s m args below meth c H locs cells slots base sa ca D lsM Qm hC hR hsz hS hc hs hl hret) (fun h => kf h p e R s m args below meth c H locs cells slots base sa ca D lsM Qm hC hR hsz hS hc hs hl hret)
theorem inv_icmp_lt {k pc nx tg : Nat} (h : gF k pc = some (46, nx, 0, tg, 0, 0)) : ∃ off : Int, decode (gCode k) pc = .ok (.if_icmp .lt off, 3) ∧ (pc : Int) + off = (tg : Int) ∧ nx = pc + 3 := by
  obtain ⟨i, len, hd, hc⟩ := gF_ok h
  cases i <;> simp [gCk] at hc
  case if_icmp c0 off =>
    cases c0 <;> simp [gCc] at hc
    obtain ⟨rfl, h1, rfl⟩ := hc
    exact ⟨off, hd, h1, rfl⟩
  all_goals first
    | omega
    | (rename_i c0 off; cases c0 <;> simp [gCc] at hc)
theorem snd_icmp_lt : r_icmp_lt (gMk l X) := by
  intro d k pc nx mc ms ls st Kd I L R Q x y tg hF kt kf
  intro p e R s m args below meth c H locs cells slots base sa ca D lsM Qm hC hR hsz hS hc hs hl hret
  obtain ⟨off, hdg, ht, rfl⟩ := inv_icmp_lt hF
  exact lv_icmp_lt hC.1 hC.2.1 hdg ht (fun h => kt h p e R s m args below meth c H locs cells slots base sa ca D lsM Qm hC hR hsz hS hc hs hl hret) (fun h => kf h p e R s m args below meth c H locs cells slots base sa ca D lsM Qm hC hR hsz hS hc hs hl hret)
theorem inv_icmp_ge {k pc nx tg : Nat} (h : gF k pc = some (47, nx, 0, tg, 0, 0)) : ∃ off : Int, decode (gCode k) pc = .ok (.if_icmp .ge off, 3) ∧ (pc : Int) + off = (tg : Int) ∧ nx = pc + 3 := by
  obtain ⟨i, len, hd, hc⟩ := gF_ok h
  cases i <;> simp [gCk] at hc
  case if_icmp c0 off =>
    cases c0 <;> simp [gCc] at hc
    obtain ⟨rfl, h1, rfl⟩ := hc
    exact ⟨off, hd, h1, rfl⟩
  all_goals first
    | omega
    | (rename_i c0 off; cases c0 <;> simp [gCc] at hc)
theorem snd_icmp_ge : r_icmp_ge (gMk l X) := by
  intro d k pc nx mc ms ls st Kd I L R Q x y tg hF kt kf
  intro p e R s m args below meth c H locs cells slots base sa ca D lsM Qm hC hR hsz hS hc hs hl hret
  obtain ⟨off, hdg, ht, rfl⟩ := inv_icmp_ge hF
  exact lv_icmp_ge hC.1 hC.2.1 hdg ht (fun h => kt h p e R s m args below meth c H locs cells slots base sa ca D lsM Qm hC hR hsz hS hc hs hl hret) (fun h => kf h p e R s m args below meth c H locs cells slots base sa ca D lsM Qm hC hR hsz hS hc hs hl hret)
theorem inv_icmp_gt {k pc nx tg : Nat} (h : gF k pc = some (48, nx, 0, tg, 0, 0)) : ∃ off : Int, decode (gCode k) pc = .ok (.if_icmp .gt off, 3) ∧ (pc : Int) + off = (tg : Int) ∧ nx = pc + 3 := by
  obtain ⟨i, len, hd, hc⟩ := gF_ok h
  cases i <;> simp [gCk] at hc
  case if_icmp c0 off =>
    cases c0 <;> simp [gCc] at hc
    obtain ⟨rfl, h1, rfl⟩ := hc
    exact ⟨off, hd, h1, rfl⟩
  all_goals first
    | omega
    | (rename_i c0 off; cases c0 <;> simp [gCc] at hc)
theorem snd_icmp_gt : r_icmp_gt (gMk l X) := by
  intro d k pc nx mc ms ls st Kd I L R Q x y tg hF kt kf
  intro p e R s m args below meth c H locs cells slots base sa ca D lsM Qm hC hR hsz hS hc hs hl hret
  obtain ⟨off, hdg, ht, rfl⟩ := inv_icmp_gt hF
  exact lv_icmp_gt hC.1 hC.2.1 hdg ht (fun h => kt h p e R s m args below meth c H locs cells slots base sa ca D lsM Qm hC hR hsz hS hc hs hl hret) (fun h => kf h p e R s m args below meth c H locs cells slots base sa ca D lsM Qm hC hR hsz hS hc hs hl hret)
theorem inv_icmp_le {k pc nx tg : Nat} (h : gF k pc = some (49, nx, 0, tg, 0, 0)) : ∃ off : Int, decode (gCode k) pc = .ok (.if_icmp .le off, 3) ∧ (pc : Int) + off = (tg : Int) ∧ nx = pc + 3 := by
  obtain ⟨i, len, hd, hc⟩ := gF_ok h
  cases i <;> simp [gCk] at hc
  case if_icmp c0 off =>
    cases c0 <;> simp [gCc] at hc
    obtain ⟨rfl, h1, rfl⟩ := hc
    exact ⟨off, hd, h1, rfl⟩
  all_goals first
    | omega
    | (rename_i c0 off; cases c0 <;> simp [gCc] at hc)
theorem snd_icmp_le : r_icmp_le (gMk l X) := by
  intro d k pc nx mc ms ls st Kd I L R Q x y tg hF kt kf
  intro p e R s m args below meth c H locs cells slots base sa ca D lsM Qm hC hR hsz hS hc hs hl hret
  obtain ⟨off, hdg, ht, rfl⟩ := inv_icmp_le hF
  exact lv_icmp_le hC.1 hC.2.1 hdg ht (fun h => kt h p e R s m args below meth c H locs cells slots base sa ca D lsM Qm hC hR hsz hS hc hs hl hret) (fun h => kf h p e R s m args below meth c H locs cells slots base sa ca D lsM Qm hC hR hsz hS hc hs hl hret)
end
