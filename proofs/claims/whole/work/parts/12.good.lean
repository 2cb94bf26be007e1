/-! EVERY STEP OF THE SMALL MACHINE IS ONE OF THE MACHINE'S -/
theorem ab_mem_of {ws : List Cond} (ps : List Nat) (h : ws = ps.filterMap (fun i => lw_tbl[i]?)) (hk : ws.all ab_okw = true) : ∀ w ∈ ws, w ∈ ab_tb := by
  intro w hw
  have h2 := List.all_eq_true.mp hk w hw
  rw [h] at hw
  obtain ⟨i, -, hi⟩ := List.mem_filterMap.mp hw
  exact ab_mem i hi h2
theorem ab_in0 : ∀ w ∈ u_ws RX0 TX0 2, w ∈ ab_tb := ab_mem_of [149, 151] (by decide +kernel) (by decide +kernel)
theorem ab_in1 : ∀ w ∈ u_ws RX1 TX1 4, w ∈ ab_tb := ab_mem_of [181, 183, 185, 187] (by decide +kernel) (by decide +kernel)
theorem ab_in2 : ∀ w ∈ u_ws RX2 TX2 6, w ∈ ab_tb := ab_mem_of [128, 130, 132, 134, 136, 138] (by decide +kernel) (by decide +kernel)
theorem ab_in3 : ∀ w ∈ u_ws RX3 TX3 3, w ∈ ab_tb := ab_mem_of [164, 166, 168] (by decide +kernel) (by decide +kernel)
theorem ab_in4 : ∀ w ∈ u_ws RX4 TX4 6, w ∈ ab_tb := ab_mem_of [84, 86, 88, 90, 92, 94] (by decide +kernel) (by decide +kernel)
theorem ab_in5 : ∀ w ∈ u_ws RX5 TX5 2, w ∈ ab_tb := ab_mem_of [66, 68] (by decide +kernel) (by decide +kernel)
theorem ab_in6 : ∀ w ∈ u_ws RX6 TX6 4, w ∈ ab_tb := ab_mem_of [200, 202, 204, 206] (by decide +kernel) (by decide +kernel)
theorem ab_in7 : ∀ w ∈ u_ws RX7 TX7 4, w ∈ ab_tb := ab_mem_of [107, 109, 111, 113] (by decide +kernel) (by decide +kernel)
theorem ab_in8 : ∀ w ∈ u_ws RX8 TX8 10, w ∈ ab_tb := ab_mem_of [221, 223, 225, 227, 229, 231, 233, 235, 237, 239] (by decide +kernel) (by decide +kernel)
theorem ab_in9 : ∀ w ∈ u_ws RX9 TX9 36, w ∈ ab_tb := ab_mem_of [837, 839, 841, 843, 845, 847, 849, 851, 853, 855, 857, 859, 861, 863, 865, 867, 869, 871, 873, 875, 877, 879, 881, 883, 885, 887, 889, 891, 893, 895, 897, 899, 901, 903, 905, 907] (by decide +kernel) (by decide +kernel)
theorem ab_vw_ok : ∀ (ci : Nat) (C : String) (T : u_T) (N : Nat), vwCl[ci]? = some (C, T, N) → (∀ w ∈ u_ws C T N, w ∈ ab_tb) ∧ ∃ ty0 : Nat → FieldType, (∀ k, k < N → parseFieldDescriptor (T k).2.2.1 = some (ty0 k)) ∧ ∀ a, a < N → ∀ b, b < N → a ≠ b → (T a).2.1 ≠ (T b).2.1 := by
  intro ci C T N h
  match ci, h with
  | 0, h => cases h; exact ⟨ab_in0, _, tyX0_ok, nmX0⟩
  | 1, h => cases h; exact ⟨ab_in1, _, tyX1_ok, nmX1⟩
  | 2, h => cases h; exact ⟨ab_in2, _, tyX2_ok, nmX2⟩
  | 3, h => cases h; exact ⟨ab_in3, _, tyX3_ok, nmX3⟩
  | 4, h => cases h; exact ⟨ab_in4, _, tyX4_ok, nmX4⟩
  | 5, h => cases h; exact ⟨ab_in5, _, tyX5_ok, nmX5⟩
  | 6, h => cases h; exact ⟨ab_in6, _, tyX6_ok, nmX6⟩
  | 7, h => cases h; exact ⟨ab_in7, _, tyX7_ok, nmX7⟩
  | 8, h => cases h; exact ⟨ab_in8, _, tyX8_ok, nmX8⟩
  | 9, h => cases h; exact ⟨ab_in9, _, tyX9_ok, nmX9⟩
  | n + 10, h => simp [vwCl] at h
/-- the field links of a class -/
def ab_flok (own : String) (fl : List (Nat × Nat × Nat)) : Prop := ∀ (idx ci k : Nat), ab_lk fl idx = some (ci, k) → ∃ (C : String) (T : u_T) (N : Nat), vwCl[ci]? = some (C, T, N) ∧ k < N ∧ Cond.fieldLink own idx (T k).1 (T k).2.1 (T k).2.2.1 ∈ ab_tb
def ab_fkB (q ci k : Nat) : Bool := match ab_sh[q]? with
  | some (.inl o) => if o.1 = ci then (match o.2[k]?, vwCl[ci]? with
    | some (.inr b), some t => decide (parseFieldDescriptor (t.2.1 k).2.2.1 = some (if b then .long else .int)) && !(t.2.1 k).2.2.2
    | _, _ => true) else true
  | _ => true
def ab_flB (q : Nat) : Bool := match ab_sh[q]? with
  | some (.inl o) => decide (o.2.length ≤ 36)
  | some (.inr a) => decide (a.2 ≤ 98)
  | none => true
/-- fields that are numbers: their types; they aren't final -/
theorem ab_fk_ok : ∀ (q ci : Nat) (fs : List ab_F), ab_sh[q]? = some (.inl (ci, fs)) → ∀ (C : String) (T : u_T) (N : Nat), vwCl[ci]? = some (C, T, N) → ∀ (k : Nat) (b : Bool), fs[k]? = some (.inr b) → parseFieldDescriptor (T k).2.2.1 = some (if b then .long else .int) ∧ (T k).2.2.2 = false := by
  have key : ∀ q : Fin 49, ∀ ci : Fin 10, ∀ k : Fin 36, ab_fkB q.1 ci.1 k.1 = true := by decide +kernel
  have h2 : ∀ q : Fin 49, ab_flB q.1 = true := by decide +kernel
  intro q ci fs hq C T N hc k b hk
  have hq1 : q < 49 := (List.getElem?_eq_some_iff.mp hq).1
  have hc1 : ci < 10 := (List.getElem?_eq_some_iff.mp hc).1
  have hk1 : k < 36 := by
    have h1 : k < fs.length := (List.getElem?_eq_some_iff.mp hk).1
    have h3 := h2 ⟨q, hq1⟩
    simp only [ab_flB, hq, decide_eq_true_eq] at h3
    omega
  have := key ⟨q, hq1⟩ ⟨ci, hc1⟩ ⟨k, hk1⟩
  simpa [ab_fkB, hq, hc, hk] using this
theorem ab_al_sh {q : Nat} {a : FieldType × Nat} (h : ab_al q = some a) : ab_sh[q]? = some (.inr a) ∧ a.2 < 2 ^ 31 := by
  have h2 : ∀ q : Fin 49, ab_flB q.1 = true := by decide +kernel
  unfold ab_al at h
  split at h
  · rename_i b hb
    cases h
    refine ⟨hb, ?_⟩
    have hq1 : q < 49 := (List.getElem?_eq_some_iff.mp hb).1
    have h3 := h2 ⟨q, hq1⟩
    simp only [ab_flB, hb, decide_eq_true_eq] at h3
    omega
  · cases h
section ABG
variable {p : Program} {l : Launch} {e : Env} {R : Room} {s : State} {m : MethodId} {args : Array Value} {below : List Frame} {meth : Method} {c : Code} {cells slots : Nat} {Q : State → Prop} {cc : ByteArray} {own : String} {D : va_G} {ad : Nat → Nat} {cA : Nat → ClassId} {A : Nat → Prop} {nL : Nat} {X : ab_X} {Post : ab_P}
/-- what a frame of ours stands in -/
def ab_C (p : Program) (s : State) (m : MethodId) (args : Array Value) (c : Code) (cc : ByteArray) (own : String) (D : va_G) (ad : Nat → Nat) (cA : Nat → ClassId) (A : Nat → Prop) (nL : Nat) : Prop :=
  p.tables.exec = Jvm.exec ∧ c.code = cc ∧ c.maxLocals = nL ∧ s.vm.findClass own = some m.cls ∧ (∀ w ∈ ab_tb, w.before args s = true) ∧ ab_W0 D ad cA A s
/-- the machine comes from here to Q -/
def ab_G (p : Program) (l : Launch) (e : Env) (R : Room) (s : State) (m : MethodId) (args : Array Value) (below : List Frame) (meth : Method) (c : Code) (cells slots : Nat) (Q : State → Prop) (D : va_G) (ad : Nat → Nat) (cA : Nat → ClassId) (A : Nat → Prop) (nL : Nat) : ab_K := fun pc lv st M =>
  ∀ (H : Heap) (locs : List Loc) (ls : Array Slot), va_P D vwCl (ab_wl ad cA M) H → va_S A s.heap H locs → ab_lok ad nL ls lv → W p l e R s m args below meth c H locs cells slots Q (F0 m pc ls (st.map (ab_cv ad)))
/-- a call, by its index: what it does is done -/
def ab_co (cc : ByteArray) (key n : Nat) (f : ab_Sem) (G : ab_K) : Prop := ∀ (pc : Nat) (lv : ab_L) (as rest : List Value) (M : ab_M) (Po : ab_P), ((∃ j, key = 2 * j ∧ decode cc pc = .ok (.invokevirtual j, 3)) ∨ ∃ j, key = 2 * j + 1 ∧ decode cc pc = .ok (.invokestatic j, 3)) → as.length = n → rest.length ≤ 4 → f as M Po → (∀ r M', Po r M' → G (pc + 3) lv (r.toList ++ rest) M') → G pc lv (as.reverse ++ rest) M
theorem ab_pp_spec : ∀ (n : Nat) (acc st : List Value) (k : List Value → List Value → Prop), ab_pp n acc st k → ∃ as rest : List Value, as.length = n ∧ st = as ++ rest ∧ k (as.reverse ++ acc) rest
  | 0, acc, st, k, h => ⟨[], st, rfl, rfl, h⟩
  | n + 1, acc, v :: st, k, h => by
    obtain ⟨as, rest, h1, h2, h3⟩ := ab_pp_spec n (v :: acc) st k h
    exact ⟨v :: as, rest, by simp [h1], by simp [h2], by simpa using h3⟩
  | n + 1, acc, [], k, h => h.elim
/-- a memory with one number set anew, as the heap has it -/
theorem ab_set_iarr {M : ab_M} {q i : Nat} {x : Int32} {a : FieldType × Nat} (hq : ab_sh[q]? = some (.inr a)) (ha : a.1 ≠ .long) : (ab_wl ad cA M).set q (ad q, .inl (cA q, a.2, .inl (upd (M.1 q) i x))) = ab_wl ad cA (ab_si M q i x) := by
  refine ab_wl_set hq (fun q' h z => ab_ce_si_ne h z) ?_
  have e : (ab_si M q i x).1 q = upd (M.1 q) i x := by
    funext b
    simp [ab_si, upd]
  obtain ⟨ty, n⟩ := a
  cases ty <;> first | exact absurd rfl ha | simp only [ab_ce, e]
theorem ab_set_larr {M : ab_M} {q i n : Nat} {x : Int64} (hq : ab_sh[q]? = some (.inr (.long, n))) : (ab_wl ad cA M).set q (ad q, .inl (cA q, n, .inr (.inl (vp_updL (M.2 q) i x)))) = ab_wl ad cA (ab_sl M q i x) := by
  refine ab_wl_set hq (fun q' h z => ab_ce_sl_ne h z) ?_
  have e : (ab_sl M q i x).2 q = vp_updL (M.2 q) i x := by
    funext b
    simp [ab_sl, vp_updL]
  simp only [ab_ce, e]
theorem ab_set_if {M : ab_M} {q ci k : Nat} {x : Int32} {fs : List ab_F} (hq : ab_sh[q]? = some (.inl (ci, fs))) (hk : fs[k]? = some (.inr false)) : (ab_wl ad cA M).set q (ad q, .inr (ci, (fs.mapIdx (fun j f => ab_fv ad M q j f)).set k (.int x))) = ab_wl ad cA (ab_si M q k x) := by
  refine ab_wl_set hq (fun q' h z => ab_ce_si_ne h z) ?_
  simp only [ab_ce]
  congr 2
  apply List.ext_getElem?
  intro j
  rw [List.getElem?_set, List.getElem?_mapIdx, List.getElem?_mapIdx]
  by_cases ej : k = j
  · subst ej
    have := (List.getElem?_eq_some_iff.mp hk).1
    simp only [List.length_mapIdx, this, if_true, hk, Option.map_some]
    simp [ab_fv, ab_si]
  · rw [if_neg ej]
    cases hj : fs[j]? with
    | none => rfl
    | some f =>
      match f with
      | .inl r => rfl
      | .inr false => simp [ab_fv, ab_si, Ne.symm ej]
      | .inr true => rfl
theorem ab_set_lf {M : ab_M} {q ci k : Nat} {x : Int64} {fs : List ab_F} (hq : ab_sh[q]? = some (.inl (ci, fs))) (hk : fs[k]? = some (.inr true)) : (ab_wl ad cA M).set q (ad q, .inr (ci, (fs.mapIdx (fun j f => ab_fv ad M q j f)).set k (.long x))) = ab_wl ad cA (ab_sl M q k x) := by
  refine ab_wl_set hq (fun q' h z => ab_ce_sl_ne h z) ?_
  simp only [ab_ce]
  congr 2
  apply List.ext_getElem?
  intro j
  rw [List.getElem?_set, List.getElem?_mapIdx, List.getElem?_mapIdx]
  by_cases ej : k = j
  · subst ej
    have := (List.getElem?_eq_some_iff.mp hk).1
    simp only [List.length_mapIdx, this, if_true, hk, Option.map_some]
    simp [ab_fv, ab_sl]
  · rw [if_neg ej]
    cases hj : fs[j]? with
    | none => rfl
    | some f =>
      match f with
      | .inl r => rfl
      | .inr true => simp [ab_fv, ab_sl, Ne.symm ej]
      | .inr false => rfl
set_option maxHeartbeats 4000000 in
theorem ab_sound (hC : ab_C p s m args c cc own D ad cA A nL) (hfl : ab_flok own X.2.1) (hkl : ∀ idx v, ab_lk X.2.2.2.1 idx = some v → (idx < 100000 → Cond.constantLong own idx v ∈ ab_tb) ∧ ∀ j, idx = j + 100000 → Cond.constant own j v.toInt32 ∈ ab_tb)
    (hgs : ∀ idx r, ab_lk X.2.2.2.2.1 idx = some r → ∃ t ∈ ab_sts, t.2.2.1 = r ∧ (Cond.fieldLink own idx "LameLead" t.1 t.2.1 ∈ ab_tb ∨ Cond.fieldLinkNest own idx "LameLead" t.1 t.2.1 "LameLead" ∈ ab_tb))
    (hro : ∀ q ty n f, ab_lk X.2.2.2.2.2 q = some (ty, n, f) → va_T ty (ad q) n f A s s.heap ∧ n < 2 ^ 31 ∧ ∀ j, ab_cv ad (f j) = f j)
    (hcs : ∀ idx n f, ab_lk X.2.2.1 idx = some (n, f) → ab_co cc idx n f (ab_G p l e R s m args below meth c cells slots Q D ad cA A nL))
    (hret : ∀ (pc : Nat) (M : ab_M) (H : Heap) (locs : List Loc) (ls : Array Slot), va_P D vwCl (ab_wl ad cA M) H → va_S A s.heap H locs →
      (∀ v : Int32, decode cc pc = .ok (.ireturn, 1) → ab_rn X.1 v → Post (some (.int v)) M → W p l e R s m args below meth c H locs cells slots Q (F0 m pc ls [.int v])) ∧
      (∀ v : Int64, decode cc pc = .ok (.lreturn, 1) → X.1 = some .long → Post (some (.long v)) M → W p l e R s m args below meth c H locs cells slots Q (F0 m pc ls [.long v])) ∧
      (decode cc pc = .ok (.return_, 1) → X.1 = none → Post none M → W p l e R s m args below meth c H locs cells slots Q (F0 m pc ls []))) :
    ab_Clo cc X Post (ab_G p l e R s m args below meth c cells slots Q D ad cA A nL) := by
  obtain ⟨hx, hb, hml, hown, hts, hw0⟩ := hC
  intro pc lv st M k hk h H locs ls hP hS hl
  have hDw : ∀ M : ab_M, va_D A (ab_wl ad cA M) := fun M => ab_wl_D hw0 M
  unfold ab_ds at h
  cases hd : decode cc pc with
  | error _ => rw [hd] at h; exact h.elim
  | ok il =>
    obtain ⟨i, len⟩ := il
    rw [hd] at h
    obtain ⟨hlen, h⟩ := h
    dsimp only at hlen h
    cases i with

    | iadd =>
      have hlen : len = 1 := hlen
      subst hlen
      simp only [ab_st] at h
      split at h
      · exact lv_iadd hx hb hd (hk _ _ _ _ h H locs ls hP hS hl)
      · exact h.elim
    | isub =>
      have hlen : len = 1 := hlen
      subst hlen
      simp only [ab_st] at h
      split at h
      · exact lv_isub hx hb hd (hk _ _ _ _ h H locs ls hP hS hl)
      · exact h.elim
    | imul =>
      have hlen : len = 1 := hlen
      subst hlen
      simp only [ab_st] at h
      split at h
      · exact lv_imul hx hb hd (hk _ _ _ _ h H locs ls hP hS hl)
      · exact h.elim
    | ineg =>
      have hlen : len = 1 := hlen
      subst hlen
      simp only [ab_st] at h
      split at h
      · exact lv_ineg hx hb hd (hk _ _ _ _ h H locs ls hP hS hl)
      · exact h.elim
    | iand =>
      have hlen : len = 1 := hlen
      subst hlen
      simp only [ab_st] at h
      split at h
      · exact lv_iand hx hb hd (hk _ _ _ _ h H locs ls hP hS hl)
      · exact h.elim
    | ior =>
      have hlen : len = 1 := hlen
      subst hlen
      simp only [ab_st] at h
      split at h
      · exact lv_ior hx hb hd (hk _ _ _ _ h H locs ls hP hS hl)
      · exact h.elim
    | ixor =>
      have hlen : len = 1 := hlen
      subst hlen
      simp only [ab_st] at h
      split at h
      · exact lv_ixor hx hb hd (hk _ _ _ _ h H locs ls hP hS hl)
      · exact h.elim
    | ishl =>
      have hlen : len = 1 := hlen
      subst hlen
      simp only [ab_st] at h
      split at h
      · exact lv_ishl hx hb hd (hk _ _ _ _ h H locs ls hP hS hl)
      · exact h.elim
    | ishr =>
      have hlen : len = 1 := hlen
      subst hlen
      simp only [ab_st] at h
      split at h
      · exact lv_ishr hx hb hd (hk _ _ _ _ h H locs ls hP hS hl)
      · exact h.elim
    | ladd =>
      have hlen : len = 1 := hlen
      subst hlen
      simp only [ab_st] at h
      split at h
      · exact lv_ladd hx hb hd (hk _ _ _ _ h H locs ls hP hS hl)
      · exact h.elim
    | lsub =>
      have hlen : len = 1 := hlen
      subst hlen
      simp only [ab_st] at h
      split at h
      · exact lv_lsub hx hb hd (hk _ _ _ _ h H locs ls hP hS hl)
      · exact h.elim
    | lmul =>
      have hlen : len = 1 := hlen
      subst hlen
      simp only [ab_st] at h
      split at h
      · exact lv_lmul hx hb hd (hk _ _ _ _ h H locs ls hP hS hl)
      · exact h.elim
    | land =>
      have hlen : len = 1 := hlen
      subst hlen
      simp only [ab_st] at h
      split at h
      · exact lv_land hx hb hd (hk _ _ _ _ h H locs ls hP hS hl)
      · exact h.elim
    | lor =>
      have hlen : len = 1 := hlen
      subst hlen
      simp only [ab_st] at h
      split at h
      · exact lv_lor hx hb hd (hk _ _ _ _ h H locs ls hP hS hl)
      · exact h.elim
    | idiv =>
      have hlen : len = 1 := hlen
      subst hlen
      simp only [ab_st] at h
      split at h
      · exact lv_idiv hx hb hd h.1 (hk _ _ _ _ h.2 H locs ls hP hS hl)
      · exact h.elim
    | irem =>
      have hlen : len = 1 := hlen
      subst hlen
      simp only [ab_st] at h
      split at h
      · exact lv_irem hx hb hd h.1 (hk _ _ _ _ h.2 H locs ls hP hS hl)
      · exact h.elim
    | ldiv =>
      have hlen : len = 1 := hlen
      subst hlen
      simp only [ab_st] at h
      split at h
      · exact lv_ldiv hx hb hd h.1 (hk _ _ _ _ h.2 H locs ls hP hS hl)
      · exact h.elim
    | lrem =>
      have hlen : len = 1 := hlen
      subst hlen
      simp only [ab_st] at h
      split at h
      · exact lv_lrem hx hb hd h.1 (hk _ _ _ _ h.2 H locs ls hP hS hl)
      · exact h.elim
    | iushr =>
      have hlen : len = 1 := hlen
      subst hlen
      simp only [ab_st] at h
      split at h
      · exact lv_iushr hx hb hd rfl (hk _ _ _ _ h H locs ls hP hS hl)
      · exact h.elim
    | lshl =>
      have hlen : len = 1 := hlen
      subst hlen
      simp only [ab_st] at h
      split at h
      · exact lv_lshl hx hb hd rfl (hk _ _ _ _ h H locs ls hP hS hl)
      · exact h.elim
    | lushr =>
      have hlen : len = 1 := hlen
      subst hlen
      simp only [ab_st] at h
      split at h
      · exact lv_lushr hx hb hd rfl (hk _ _ _ _ h H locs ls hP hS hl)
      · exact h.elim
    | i2l =>
      have hlen : len = 1 := hlen
      subst hlen
      simp only [ab_st] at h
      split at h
      · exact lv_i2l hx hb hd rfl (hk _ _ _ _ h H locs ls hP hS hl)
      · exact h.elim
    | l2i =>
      have hlen : len = 1 := hlen
      subst hlen
      simp only [ab_st] at h
      split at h
      · exact lv_l2i hx hb hd rfl (hk _ _ _ _ h H locs ls hP hS hl)
      · exact h.elim
    | lcmp =>
      have hlen : len = 1 := hlen
      subst hlen
      simp only [ab_st] at h
      split at h
      · exact W.lcmp hx hb hd (hk _ _ _ _ h H locs ls hP hS hl)
      · exact h.elim
    | iconst n =>
      have hlen : len = 1 := hlen
      subst hlen
      exact lv_iconst hx hb hd rfl (hk _ _ _ _ h H locs ls hP hS hl)
    | bipush n =>
      have hlen : len = 2 := hlen
      subst hlen
      exact lv_bipush hx hb hd rfl (hk _ _ _ _ h H locs ls hP hS hl)
    | sipush n =>
      have hlen : len = 3 := hlen
      subst hlen
      exact lv_sipush hx hb hd rfl (hk _ _ _ _ h H locs ls hP hS hl)
    | lconst n =>
      have hlen : len = 1 := hlen
      subst hlen
      exact lv_lconst hx hb hd rfl (hk _ _ _ _ h H locs ls hP hS hl)
    | iload_n j =>
      have hlen : len = 1 := hlen
      subst hlen
      simp only [ab_st] at h
      split at h
      · rename_i x hj
        exact lv_iload_n hx hb hd rfl (hl.2.2.2 _ _ hj) (hk _ _ _ _ h H locs ls hP hS hl)
      · exact h.elim
    | lload_n j =>
      have hlen : len = 1 := hlen
      subst hlen
      simp only [ab_st] at h
      split at h
      · rename_i x hj
        exact lv_lload_n hx hb hd rfl (hl.2.2.2 _ _ hj) (hk _ _ _ _ h H locs ls hP hS hl)
      · exact h.elim
    | aload_n j =>
      have hlen : len = 1 := hlen
      subst hlen
      simp only [ab_st] at h
      split at h
      · rename_i x hj
        exact lv_aload_n hx hb hd rfl (hl.2.2.2 _ _ hj) (hk _ _ _ _ h H locs ls hP hS hl)
      · exact h.elim
    | iload j =>
      have hlen : len = 2 := hlen
      subst hlen
      simp only [ab_st] at h
      split at h
      · rename_i x hj
        exact lv_iload hx hb hd (hl.2.2.2 _ _ hj) (hk _ _ _ _ h H locs ls hP hS hl)
      · exact h.elim
    | lload j =>
      have hlen : len = 2 := hlen
      subst hlen
      simp only [ab_st] at h
      split at h
      · rename_i x hj
        exact lv_lload hx hb hd (hl.2.2.2 _ _ hj) (hk _ _ _ _ h H locs ls hP hS hl)
      · exact h.elim
    | istore_n j =>
      have hlen : len = 1 := hlen
      subst hlen
      simp only [ab_st] at h
      split at h
      · rename_i x st'
        exact lv_istore_n hx hb hd rfl hl.has (Nat.lt_of_lt_of_le (ab_nl_lt _ _ h.1).1 hl.2.2.1) rfl (fun ls' hl' => hk _ _ _ _ h.2 H locs ls' hP hS (hl.set1 (v := .int x) h.1 hl'))
      · exact h.elim
    | astore_n j =>
      have hlen : len = 1 := hlen
      subst hlen
      simp only [ab_st] at h
      split at h
      · rename_i x st'
        exact lv_astore_n hx hb hd rfl hl.has (Nat.lt_of_lt_of_le (ab_nl_lt _ _ h.1).1 hl.2.2.1) rfl (fun ls' hl' => hk _ _ _ _ h.2 H locs ls' hP hS (hl.set1 (v := .ref x) h.1 hl'))
      · exact h.elim
    | istore j =>
      have hlen : len = 2 := hlen
      subst hlen
      simp only [ab_st] at h
      split at h
      · rename_i x st'
        exact lv_istore hx hb hd hl.has (Nat.lt_of_lt_of_le (ab_nl_lt _ _ h.1).1 hl.2.2.1) rfl (fun ls' hl' => hk _ _ _ _ h.2 H locs ls' hP hS (hl.set1 (v := .int x) h.1 hl'))
      · exact h.elim
    | lstore_n j =>
      have hlen : len = 1 := hlen
      subst hlen
      simp only [ab_st] at h
      split at h
      · rename_i x st'
        exact lv_lstore_n hx hb hd rfl hl.has (Nat.lt_of_lt_of_le h.2.1 hl.2.2.1) rfl (fun ls' hl' => hk _ _ _ _ h.2.2 H locs ls' hP hS (hl.set2 (v := .long x) h.1 hl'))
      · exact h.elim
    | lstore j =>
      have hlen : len = 2 := hlen
      subst hlen
      simp only [ab_st] at h
      split at h
      · rename_i x st'
        exact lv_lstore hx hb hd hl.has (Nat.lt_of_lt_of_le h.2.1 hl.2.2.1) rfl (fun ls' hl' => hk _ _ _ _ h.2.2 H locs ls' hP hS (hl.set2 (v := .long x) h.1 hl'))
      · exact h.elim
    | iinc j n =>
      have hlen : len = 3 := hlen
      subst hlen
      simp only [ab_st] at h
      split at h
      · rename_i x hj
        have hm : (j, Value.int x) ∈ ab_as ad 0 lv := (ab_as_mem lv 0 _).mpr ⟨j, .int x, hj, by simp [ab_cv]⟩
        obtain ⟨kk, hkk⟩ := List.getElem?_of_mem hm
        exact lv_iinc hx hb hd hl.has hkk rfl (Nat.lt_of_lt_of_le (List.getElem?_eq_some_iff.mp hj).1 hl.2.2.1) rfl (fun ls' hl' => hk _ _ _ _ h H locs ls' hP hS (hl.set1' (v := .int (x + Int32.ofInt n)) hj hl'))
      · exact h.elim
    | dup =>
      have hlen : len = 1 := hlen
      subst hlen
      simp only [ab_st] at h
      split at h
      · exact lv_dup hx hb hd rfl (hk _ _ _ _ h H locs ls hP hS hl)
      · exact lv_dup hx hb hd rfl (hk _ _ _ _ h H locs ls hP hS hl)
      · exact h.elim
    | pop =>
      have hlen : len = 1 := hlen
      subst hlen
      simp only [ab_st] at h
      split at h
      · exact lv_pop hx hb hd rfl (hk _ _ _ _ h H locs ls hP hS hl)
      · exact h.elim
    | dup2 =>
      have hlen : len = 1 := hlen
      subst hlen
      simp only [ab_st] at h
      split at h
      · exact lv_dup2_11 hx hb hd rfl rfl (hk _ _ _ _ h H locs ls hP hS hl)
      · exact h.elim
    | goto off =>
      have hlen : len = 3 := hlen
      subst hlen
      exact lv_goto hx hb hd (ab_tg h.1) (hk _ _ _ _ h.2 H locs ls hP hS hl)
    | ifCond cd off =>
      have hlen : len = 3 := hlen
      subst hlen
      cases cd with
      | eq =>
        simp only [ab_st] at h
        split at h
        · obtain ⟨h0, h⟩ := h
          exact lv_if_eq hx hb hd (ab_tg h0) (fun hc => by rw [if_pos hc] at h; exact hk _ _ _ _ h H locs ls hP hS hl) (fun hc => by rw [if_neg hc] at h; exact hk _ _ _ _ h H locs ls hP hS hl)
        · exact h.elim
      | ne =>
        simp only [ab_st] at h
        split at h
        · obtain ⟨h0, h⟩ := h
          exact lv_if_ne hx hb hd (ab_tg h0) (fun hc => by rw [if_neg hc] at h; exact hk _ _ _ _ h H locs ls hP hS hl) (fun hc => by rw [if_pos hc] at h; exact hk _ _ _ _ h H locs ls hP hS hl)
        · exact h.elim
      | lt =>
        simp only [ab_st] at h
        split at h
        · obtain ⟨h0, h⟩ := h
          exact lv_if_lt hx hb hd (ab_tg h0) (fun hc => by rw [if_pos hc] at h; exact hk _ _ _ _ h H locs ls hP hS hl) (fun hc => by rw [if_neg hc] at h; exact hk _ _ _ _ h H locs ls hP hS hl)
        · exact h.elim
      | ge =>
        simp only [ab_st] at h
        split at h
        · obtain ⟨h0, h⟩ := h
          exact lv_if_ge hx hb hd (ab_tg h0) (fun hc => by rw [if_neg (Int32.not_lt.mpr hc)] at h; exact hk _ _ _ _ h H locs ls hP hS hl) (fun hc => by rw [if_pos (Int32.not_le.mp hc)] at h; exact hk _ _ _ _ h H locs ls hP hS hl)
        · exact h.elim
      | gt =>
        simp only [ab_st] at h
        split at h
        · obtain ⟨h0, h⟩ := h
          exact lv_if_gt hx hb hd (ab_tg h0) (fun hc => by rw [if_pos hc] at h; exact hk _ _ _ _ h H locs ls hP hS hl) (fun hc => by rw [if_neg hc] at h; exact hk _ _ _ _ h H locs ls hP hS hl)
        · exact h.elim
      | le =>
        simp only [ab_st] at h
        split at h
        · obtain ⟨h0, h⟩ := h
          exact lv_if_le hx hb hd (ab_tg h0) (fun hc => by rw [if_neg (Int32.not_lt.mpr hc)] at h; exact hk _ _ _ _ h H locs ls hP hS hl) (fun hc => by rw [if_pos (Int32.not_le.mp hc)] at h; exact hk _ _ _ _ h H locs ls hP hS hl)
        · exact h.elim
    | if_icmp cd off =>
      have hlen : len = 3 := hlen
      subst hlen
      cases cd with
      | eq =>
        simp only [ab_st] at h
        split at h
        · obtain ⟨h0, h⟩ := h
          exact lv_icmp_eq hx hb hd (ab_tg h0) (fun hc => by rw [if_pos hc] at h; exact hk _ _ _ _ h H locs ls hP hS hl) (fun hc => by rw [if_neg hc] at h; exact hk _ _ _ _ h H locs ls hP hS hl)
        · exact h.elim
      | ne =>
        simp only [ab_st] at h
        split at h
        · obtain ⟨h0, h⟩ := h
          exact lv_icmp_ne hx hb hd (ab_tg h0) (fun hc => by rw [if_neg hc] at h; exact hk _ _ _ _ h H locs ls hP hS hl) (fun hc => by rw [if_pos hc] at h; exact hk _ _ _ _ h H locs ls hP hS hl)
        · exact h.elim
      | lt =>
        simp only [ab_st] at h
        split at h
        · obtain ⟨h0, h⟩ := h
          exact lv_icmp_lt hx hb hd (ab_tg h0) (fun hc => by rw [if_pos hc] at h; exact hk _ _ _ _ h H locs ls hP hS hl) (fun hc => by rw [if_neg hc] at h; exact hk _ _ _ _ h H locs ls hP hS hl)
        · exact h.elim
      | ge =>
        simp only [ab_st] at h
        split at h
        · obtain ⟨h0, h⟩ := h
          exact lv_icmp_ge hx hb hd (ab_tg h0) (fun hc => by rw [if_neg (Int32.not_lt.mpr hc)] at h; exact hk _ _ _ _ h H locs ls hP hS hl) (fun hc => by rw [if_pos (Int32.not_le.mp hc)] at h; exact hk _ _ _ _ h H locs ls hP hS hl)
        · exact h.elim
      | gt =>
        simp only [ab_st] at h
        split at h
        · obtain ⟨h0, h⟩ := h
          exact lv_icmp_gt hx hb hd (ab_tg h0) (fun hc => by rw [if_pos hc] at h; exact hk _ _ _ _ h H locs ls hP hS hl) (fun hc => by rw [if_neg hc] at h; exact hk _ _ _ _ h H locs ls hP hS hl)
        · exact h.elim
      | le =>
        simp only [ab_st] at h
        split at h
        · obtain ⟨h0, h⟩ := h
          exact lv_icmp_le hx hb hd (ab_tg h0) (fun hc => by rw [if_neg (Int32.not_lt.mpr hc)] at h; exact hk _ _ _ _ h H locs ls hP hS hl) (fun hc => by rw [if_pos (Int32.not_le.mp hc)] at h; exact hk _ _ _ _ h H locs ls hP hS hl)
        · exact h.elim
    | tableswitch d lo hi offs =>
      simp only [ab_st] at h
      split at h
      · obtain ⟨h0, h⟩ := h
        rcases ab_tsw_spec offs.toList lo h with ⟨h1, h2, h3⟩ | ⟨o, h1, h2, h3, h4, h5⟩
        · refine lv_tableOut hx hb hd ?_ (ab_tg h2) (hk _ _ _ _ h3 H locs ls hP hS hl)
          rcases h1 with h1 | h1
          · exact Or.inl h1
          · right
            simp at h1
            omega
        · refine lv_tableIn hx hb hd (by omega) ?_ ?_ (ab_tg h4) (hk _ _ _ _ h5 H locs ls hP hS hl)
          · simp at h2
            omega
          · rw [← Array.getElem?_toList]
            exact h3
      · exact h.elim
    | iaload =>
      have hlen : len = 1 := hlen
      subst hlen
      simp only [ab_st] at h
      split at h
      · rename_i i q st'
        unfold ab_ia at h
        split at h
        · rename_i ty n hq
          obtain ⟨rfl, hi, h⟩ := h
          obtain ⟨hsh, hn⟩ := ab_al_sh hq
          refine va_iald hx hb (hw0.2.1 q _ hsh) hP q 0 (cA := cA q) (n := n) (f := M.1 q) ?_ rfl (ab_in hi hn) hd (hk _ _ _ _ h H locs ls hP hS hl)
          rw [ab_wl_get, hsh]
          rfl
        · split at h
          · rename_i ty n f hq
            obtain ⟨rfl, hi, h⟩ := h
            obtain ⟨hT, hn, hf⟩ := hro _ _ _ _ hq
            refine va_ti hx hb hT hS (ab_in hi hn) rfl hd ?_
            have := hk _ _ _ _ h H locs ls hP hS hl
            simp only [List.map_cons, hf] at this
            exact this
          · exact h.elim
      · exact h.elim
    | laload =>
      have hlen : len = 1 := hlen
      subst hlen
      simp only [ab_st] at h
      split at h
      · rename_i i q st'
        unfold ab_la at h
        split at h
        · rename_i ty n hq
          obtain ⟨rfl, hi, h⟩ := h
          obtain ⟨hsh, hn⟩ := ab_al_sh hq
          refine va_lald hx hb (hw0.2.1 q _ hsh) hP q 0 (cA := cA q) (n := n) (f := M.2 q) ?_ rfl (ab_in hi hn) hd (hk _ _ _ _ h H locs ls hP hS hl)
          rw [ab_wl_get, hsh]
          rfl
        · split at h
          · rename_i ty n f hq
            obtain ⟨rfl, hi, h⟩ := h
            obtain ⟨hT, hn, hf⟩ := hro _ _ _ _ hq
            refine va_tl hx hb hT hS (ab_in hi hn) rfl hd ?_
            have := hk _ _ _ _ h H locs ls hP hS hl
            simp only [List.map_cons, hf] at this
            exact this
          · exact h.elim
      · exact h.elim
    | baload =>
      have hlen : len = 1 := hlen
      subst hlen
      simp only [ab_st] at h
      split at h
      · rename_i i q st'
        unfold ab_za at h
        split at h
        · rename_i ty n hq
          obtain ⟨rfl, hi, h⟩ := h
          obtain ⟨hsh, hn⟩ := ab_al_sh hq
          refine va_zald hx hb (hw0.2.1 q _ hsh) hP q 0 (cA := cA q) (n := n) (f := M.1 q) ?_ rfl (ab_in hi hn) hd (hk _ _ _ _ h H locs ls hP hS hl)
          rw [ab_wl_get, hsh]
          rfl
        · exact h.elim
      · exact h.elim
    | iastore =>
      have hlen : len = 1 := hlen
      subst hlen
      simp only [ab_st] at h
      split at h
      · rename_i x i q st'
        unfold ab_is at h
        split at h
        · rename_i ty n hq
          obtain ⟨rfl, hi, h⟩ := h
          obtain ⟨hsh, hn⟩ := ab_al_sh hq
          refine va_iast hx hb (hw0.2.1 q _ hsh) hP (hDw M) hS q 0 (cA := cA q) (n := n) (f := M.1 q) ?_ rfl (ab_in hi hn) hd (fun H1 locs1 hP1 hD1 hS1 => hk _ _ _ _ h H1 locs1 ls ?_ hS1 hl)
          · rw [ab_wl_get, hsh]
            rfl
          · rw [← ab_set_iarr (a := (.int, n)) hsh (by simp)]
            exact hP1
        · exact h.elim
      · exact h.elim
    | bastore =>
      have hlen : len = 1 := hlen
      subst hlen
      simp only [ab_st] at h
      split at h
      · rename_i x i q st'
        unfold ab_zs at h
        split at h
        · rename_i ty n hq
          obtain ⟨rfl, hi, h⟩ := h
          obtain ⟨hsh, hn⟩ := ab_al_sh hq
          refine va_zast hx hb (hw0.2.1 q _ hsh) hP (hDw M) hS q 0 (cA := cA q) (n := n) (f := M.1 q) ?_ rfl (ab_in hi hn) hd (fun H1 locs1 hP1 hD1 hS1 => hk _ _ _ _ h H1 locs1 ls ?_ hS1 hl)
          · rw [ab_wl_get, hsh]
            rfl
          · rw [← ab_set_iarr (a := (.boolean, n)) hsh (by simp)]
            exact hP1
        · exact h.elim
      · exact h.elim
    | lastore =>
      have hlen : len = 1 := hlen
      subst hlen
      simp only [ab_st] at h
      split at h
      · rename_i x i q st'
        unfold ab_ls at h
        split at h
        · rename_i ty n hq
          obtain ⟨rfl, hi, h⟩ := h
          obtain ⟨hsh, hn⟩ := ab_al_sh hq
          refine va_last hx hb (hw0.2.1 q _ hsh) hP (hDw M) hS q 0 (cA := cA q) (n := n) (f := M.2 q) ?_ rfl (ab_in hi hn) hd (fun H1 locs1 hP1 hD1 hS1 => hk _ _ _ _ h H1 locs1 ls ?_ hS1 hl)
          · rw [ab_wl_get, hsh]
            rfl
          · rw [← ab_set_larr hsh]
            exact hP1
        · exact h.elim
      · exact h.elim
    | arraylength =>
      have hlen : len = 1 := hlen
      subst hlen
      simp only [ab_st] at h
      split at h
      · rename_i q st'
        unfold ab_len at h
        split at h
        · rename_i ty n hq
          obtain ⟨hsh, hn⟩ := ab_al_sh hq
          have he := ab_wl_get ad cA M q
          rw [hsh] at he
          exact va_alen hx hb (hw0.2.1 q _ hsh) hP q 0 he rfl rfl hd (hk _ _ _ _ h H locs ls hP hS hl)
        · split at h
          · rename_i ty n f hq
            obtain ⟨hT, hn, hf⟩ := hro _ _ _ _ hq
            exact va_tlen hx hb hT hS rfl hd (hk _ _ _ _ h H locs ls hP hS hl)
          · exact h.elim
      · exact h.elim
    | getfield idx =>
      have hlen : len = 3 := hlen
      subst hlen
      simp only [ab_st] at h
      split at h
      · rename_i q st'
        unfold ab_gf at h
        split at h
        · rename_i ci sl hlk
          split at h
          · rename_i v hv
            obtain ⟨C, T, N, hcl, hkN, hlink⟩ := hfl _ _ _ hlk
            obtain ⟨hin, -⟩ := ab_vw_ok ci C T N hcl
            unfold ab_rf at hv
            split at hv
            · rename_i c' fs hsh
              split at hv
              · rename_i hcc
                subst hcc
                have hv2 : (fs.mapIdx (fun k f => ab_fv ad M q k f))[sl]? = some (ab_cv ad v) := by
                  rw [List.getElem?_mapIdx]
                  split at hv <;> rename_i hf <;> first | (cases hv; rw [hf]; rfl) | cases hv
                refine va_get hx hb hts hin hown hw0.1 hP q (fs := fs.mapIdx (fun k f => ab_fv ad M q k f)) ?_ hcl sl hkN (hts _ hlink) (fun _ h9 => h9) hv2 hd (hk _ _ _ _ h H locs ls hP hS hl)
                rw [ab_wl_get, hsh]
                rfl
              · cases hv
            · cases hv
          · exact h.elim
        · exact h.elim
      · exact h.elim
    | putfield idx =>
      have hlen : len = 3 := hlen
      subst hlen
      simp only [ab_st] at h
      split at h
      · rename_i v q st'
        unfold ab_pf at h
        split at h
        · rename_i ci sl hlk
          split at h
          · rename_i M' hv
            obtain ⟨C, T, N, hcl, hkN, hlink⟩ := hfl _ _ _ hlk
            obtain ⟨hin, ty0, hty, hnm⟩ := ab_vw_ok ci C T N hcl
            unfold ab_wf at hv
            split at hv
            · rename_i c' fs hsh
              split at hv
              · rename_i hcc
                subst hcc
                have he : (ab_wl ad cA M)[q]? = some (ad q, .inr (c', fs.mapIdx (fun k f => ab_fv ad M q k f))) := by
                  rw [ab_wl_get, hsh]
                  rfl
                split at hv
                · rename_i x hf
                  cases hv
                  obtain ⟨hpd, hfin⟩ := ab_fk_ok q c' fs hsh C T N hcl sl false hf
                  refine va_put hx hb hts hin ty0 hty hnm hown hw0.1 hP (hDw M) hS q he hcl sl hkN (hts _ hlink) (fun _ h9 => h9) hfin hpd rfl rfl (by simpa using (List.getElem?_eq_some_iff.mp hf).1) hd (fun H1 locs1 hP1 hD1 hS1 => hk _ _ _ _ h H1 locs1 ls ?_ hS1 hl)
                  rw [← ab_set_if hsh hf]
                  exact hP1
                · rename_i x hf
                  cases hv
                  obtain ⟨hpd, hfin⟩ := ab_fk_ok q c' fs hsh C T N hcl sl true hf
                  refine va_put hx hb hts hin ty0 hty hnm hown hw0.1 hP (hDw M) hS q he hcl sl hkN (hts _ hlink) (fun _ h9 => h9) hfin hpd rfl rfl (by simpa using (List.getElem?_eq_some_iff.mp hf).1) hd (fun H1 locs1 hP1 hD1 hS1 => hk _ _ _ _ h H1 locs1 ls ?_ hS1 hl)
                  rw [← ab_set_lf hsh hf]
                  exact hP1
                · cases hv
              · cases hv
            · cases hv
          · exact h.elim
        · exact h.elim
      · exact h.elim
    | getstatic idx =>
      have hlen : len = 3 := hlen
      subst hlen
      simp only [ab_st] at h
      split at h
      · rename_i r hr
        obtain ⟨t, ht, rfl, hln⟩ := hgs _ _ hr
        obtain ⟨hZ, -⟩ := hw0.2.2.2.2 t ht
        rcases hln with hln | hln
        · exact va_gets hx hb hZ hS hown (hts _ hln) (fun _ h9 => h9) hd (hk _ _ _ _ h H locs ls hP hS hl)
        · exact va_getsN hx hb hZ hS hown (hts _ hln) (fun _ h9 => h9) hd (hk _ _ _ _ h H locs ls hP hS hl)
      · exact h.elim
    | ldc_w idx =>
      have hlen : len = 3 := hlen
      subst hlen
      simp only [ab_st] at h
      split at h
      · rename_i v hv
        exact lv_ldcw hx hb hown (hts _ ((hkl _ _ hv).2 idx rfl)) hd (hk _ _ _ _ h H locs ls hP hS hl)
      · exact h.elim
    | ldc2_w idx =>
      have hlen : len = 3 := hlen
      subst hlen
      simp only [ab_st] at h
      split at h
      · rename_i v hv
        obtain ⟨hlt, h⟩ := h
        exact lv_ldc2 hx hb hown (hts _ ((hkl _ _ hv).1 hlt)) hd (hk _ _ _ _ h H locs ls hP hS hl)
      · exact h.elim
    | invokevirtual idx =>
      have hlen : len = 3 := hlen
      subst hlen
      simp only [ab_st, ab_ca] at h
      split at h
      · rename_i n f hcl
        obtain ⟨as, rest, h1, rfl, h3, h4⟩ := ab_pp_spec n [] st _ h
        rw [List.append_nil] at h4
        have := hcs _ n f hcl pc lv as.reverse rest M _ (Or.inl ⟨idx, rfl, hd⟩) (by simpa using h1) h3 h4 (fun r M' hr => hk _ _ _ _ hr) H locs ls hP hS hl
        simpa using this
      · exact h.elim
    | invokestatic idx =>
      have hlen : len = 3 := hlen
      subst hlen
      simp only [ab_st, ab_ca] at h
      split at h
      · rename_i n f hcl
        obtain ⟨as, rest, h1, rfl, h3, h4⟩ := ab_pp_spec n [] st _ h
        rw [List.append_nil] at h4
        have := hcs _ n f hcl pc lv as.reverse rest M _ (Or.inr ⟨idx, rfl, hd⟩) (by simpa using h1) h3 h4 (fun r M' hr => hk _ _ _ _ hr) H locs ls hP hS hl
        simpa using this
      · exact h.elim
    | ireturn =>
      have hlen : len = 1 := hlen
      subst hlen
      simp only [ab_st] at h
      split at h
      · exact (hret pc M H locs ls hP hS).1 _ hd h.1 h.2
      · exact h.elim
    | lreturn =>
      have hlen : len = 1 := hlen
      subst hlen
      simp only [ab_st] at h
      split at h
      · exact (hret pc M H locs ls hP hS).2.1 _ hd h.1 h.2
      · exact h.elim
    | return_ =>
      have hlen : len = 1 := hlen
      subst hlen
      simp only [ab_st] at h
      split at h
      · exact (hret pc M H locs ls hP hS).2.2 hd h.1 h.2
      · exact h.elim
    | _ => exact h.elim
end ABG
