/-! THE SMALL MACHINE IS SOUND -/
def ab_cv (ad : Nat → Nat) : Value → Value
  | .ref q => .ref (ad q)
  | v => v
def ab_fv (ad : Nat → Nat) (M : ab_M) (q k : Nat) : ab_F → Value
  | .inl r => .ref (ad r)
  | .inr false => .int (M.1 q k)
  | .inr true => .long (M.2 q k)
def ab_ce (ad : Nat → Nat) (cA : Nat → ClassId) (M : ab_M) (q : Nat) : ab_S → va_E
  | .inl o => .inr (o.1, o.2.mapIdx (fun k f => ab_fv ad M q k f))
  | .inr a => .inl (cA q, a.2, match a.1 with | .long => .inr (.inl (M.2 q)) | _ => .inl (M.1 q))
def ab_wl (ad : Nat → Nat) (cA : Nat → ClassId) (M : ab_M) : va_W := ab_sh.mapIdx (fun q x => (ad q, ab_ce ad cA M q x))
/-- the tables of the system: name, descriptor, place, type, length, contents -/
abbrev ab_T : Type := List (String × String × Nat × FieldType × Nat × (Nat → Value))
def ab_tab (l : List Int) : Nat → Value := fun k => .int (Int32.ofInt (l.getD k 0))
def ab_tabL (l : List Int) : Nat → Value := fun k => .long (Int64.ofInt (l.getD k 0))
def ab_sts : ab_T := [
  ("SLOWED_BY", "[I", 100, .int, 4, ab_tab [2, 1, 3, 2]),
  ("FACTORIALS", "[I", 101, .int, 6, ab_tab [1, 1, 2, 6, 24, 120]),
  ("ROW_LIMITS", "[J", 102, .long, 4, ab_tabL [1000, 1000000, 1000000000, 1000000000000]),
  ("STRETCH_LEAST", "[I", 103, .int, 2, ab_tab [1, 0]),
  ("STRETCH_MOST", "[I", 104, .int, 2, ab_tab [9, 3]),
  ("MAN_LEAST", "[I", 105, .int, 3, ab_tab [1, 0, 0]),
  ("MAN_MOST", "[I", 106, .int, 3, ab_tab [9, 3, 9])]
/-- what stays: classes, array classes, the places apart and free to write, the tables -/
def ab_W0 (D : va_G) (ad : Nat → Nat) (cA : Nat → ClassId) (A : Nat → Prop) (U : State) : Prop :=
  va_K D vwCl [] U ∧ (∀ (q : Nat) (a : FieldType × Nat), ab_sh[q]? = some (.inr a) → va_K D vwCl [(cA q, a.1)] U) ∧
  (∀ i j : Nat, i < ab_sh.length → j < ab_sh.length → ad i = ad j → i = j) ∧ (∀ i : Nat, i < ab_sh.length → A (ad i)) ∧
  ∀ t ∈ ab_sts, va_Z "LameLead" t.1 t.2.1 (.ref (ad t.2.2.1)) A U U.heap ∧ va_T t.2.2.2.1 (ad t.2.2.1) t.2.2.2.2.1 t.2.2.2.2.2 A U U.heap
/-- links to a nest mate: words that aren't kept by themselves, and are carried -/
def ab_isN : Cond → Bool
  | .fieldLinkNest .. => true
  | .methodLinkNest .. => true
  | _ => false
def ab_okw (w : Cond) : Bool := goodWord w || ab_isN w
/-- the words of the tables that a method may use -/
def ab_tb : List Cond := lw_tbl.filter ab_okw
theorem ab_mem {w : Cond} (i : Nat) (h : lw_tbl[i]? = some w) (hk : ab_okw w = true) : w ∈ ab_tb := List.mem_filter.mpr ⟨List.mem_of_getElem? h, hk⟩
def ab_Nx (U : State) : Prop := ∀ w ∈ ab_tb, ab_isN w = true → va_Nw w U
def ab_Wd (D : va_G) (ad : Nat → Nat) (cA : Nat → ClassId) (A : Nat → Prop) (M : ab_M) (U : State) : Prop := va_P D vwCl (ab_wl ad cA M) U.heap ∧ ab_W0 D ad cA A U ∧ ab_Nx U
theorem ab_W0.moved {D : va_G} {ad : Nat → Nat} {cA : Nat → ClassId} {A : Nat → Prop} {u U : State} (hvm : u.vm.Alike U.vm) (hq : ∀ a : Nat, a < u.heap.size → ¬ A a → U.heap[a]? = u.heap[a]?) (h : ab_W0 D ad cA A u) : ab_W0 D ad cA A U :=
  ⟨va_K.moved hvm h.1, fun q a hs => va_K.moved hvm (h.2.1 q a hs), h.2.2.1, h.2.2.2.1, fun t ht => ⟨((h.2.2.2.2 t ht).1.kept hq).moved hvm, ((h.2.2.2.2 t ht).2.kept hq).moved hvm⟩⟩
theorem ab_wl_get (ad : Nat → Nat) (cA : Nat → ClassId) (M : ab_M) (q : Nat) : (ab_wl ad cA M)[q]? = (ab_sh[q]?).map (fun x => (ad q, ab_ce ad cA M q x)) := by
  simp [ab_wl]
theorem ab_wl_D {D : va_G} {ad : Nat → Nat} {cA : Nat → ClassId} {A : Nat → Prop} {U : State} (h : ab_W0 D ad cA A U) (M : ab_M) : va_D A (ab_wl ad cA M) := by
  constructor
  · intro i j p q hi hj e
    rw [ab_wl_get] at hi hj
    obtain ⟨x, hx, rfl⟩ := Option.map_eq_some_iff.mp hi
    obtain ⟨y, hy, rfl⟩ := Option.map_eq_some_iff.mp hj
    exact h.2.2.1 i j (List.getElem?_eq_some_iff.mp hx).1 (List.getElem?_eq_some_iff.mp hy).1 e
  · intro k q hk
    rw [ab_wl_get] at hk
    obtain ⟨x, hx, rfl⟩ := Option.map_eq_some_iff.mp hk
    exact h.2.2.2.1 k (List.getElem?_eq_some_iff.mp hx).1
theorem ab_ce_si_ne {ad : Nat → Nat} {cA : Nat → ClassId} {M : ab_M} {q q' k : Nat} {x : Int32} (h : q' ≠ q) (y : ab_S) : ab_ce ad cA (ab_si M q k x) q' y = ab_ce ad cA M q' y := by
  have e : (ab_si M q k x).1 q' = M.1 q' := by funext b; simp [ab_si, h]
  have e2 : (ab_si M q k x).2 = M.2 := rfl
  cases y with
  | inl o =>
    have : ∀ (j : Nat) (f : ab_F), ab_fv ad (ab_si M q k x) q' j f = ab_fv ad M q' j f := by
      intro j f
      match f with
      | .inl r => rfl
      | .inr false => simp only [ab_fv, e]
      | .inr true => simp only [ab_fv, e2]
    simp only [ab_ce, this]
  | inr a => simp only [ab_ce, e, e2]
theorem ab_ce_sl_ne {ad : Nat → Nat} {cA : Nat → ClassId} {M : ab_M} {q q' k : Nat} {x : Int64} (h : q' ≠ q) (y : ab_S) : ab_ce ad cA (ab_sl M q k x) q' y = ab_ce ad cA M q' y := by
  have e : (ab_sl M q k x).2 q' = M.2 q' := by funext b; simp [ab_sl, h]
  have e2 : (ab_sl M q k x).1 = M.1 := rfl
  cases y with
  | inl o =>
    have : ∀ (j : Nat) (f : ab_F), ab_fv ad (ab_sl M q k x) q' j f = ab_fv ad M q' j f := by
      intro j f
      match f with
      | .inl r => rfl
      | .inr false => simp only [ab_fv, e2]
      | .inr true => simp only [ab_fv, e]
    simp only [ab_ce, this]
  | inr a => simp only [ab_ce, e, e2]
/-- a world with one cell set anew is the world of the new memory, if the others stay -/
theorem ab_wl_set {ad : Nat → Nat} {cA : Nat → ClassId} {M M' : ab_M} {q : Nat} {y : ab_S} (hy : ab_sh[q]? = some y) (h : ∀ q', q' ≠ q → ∀ z, ab_ce ad cA M' q' z = ab_ce ad cA M q' z) {E : va_E} (hE : E = ab_ce ad cA M' q y) : (ab_wl ad cA M).set q (ad q, E) = ab_wl ad cA M' := by
  apply List.ext_getElem?
  intro i
  rw [List.getElem?_set, ab_wl_get, ab_wl_get]
  have hl : (ab_wl ad cA M).length = ab_sh.length := by simp [ab_wl]
  by_cases e : q = i
  · subst e
    have hq := (List.getElem?_eq_some_iff.mp hy).1
    rw [if_pos rfl, if_pos (by rw [hl]; exact hq), hy, hE]
    rfl
  · rw [if_neg e]
    cases ab_sh[i]? with
    | none => rfl
    | some z => simp [h i (fun e' => e e'.symm)]
/-- the locals of a frame, as far as they are known -/
def ab_lok (ad : Nat → Nat) (nL : Nat) (ls : Array Slot) (lv : ab_L) : Prop := ls.size = nL ∧ lv_wf ls ∧ lv.length ≤ nL ∧ ∀ (i : Nat) (v : Value), lv[i]? = some (some v) → ls[i]? = some (.val (ab_cv ad v))
def ab_as (ad : Nat → Nat) : Nat → ab_L → List (Nat × Value)
  | _, [] => []
  | i, none :: t => ab_as ad (i + 1) t
  | i, some v :: t => (i, ab_cv ad v) :: ab_as ad (i + 1) t
theorem ab_as_mem {ad : Nat → Nat} : ∀ (lv : ab_L) (i : Nat) (q : Nat × Value), q ∈ ab_as ad i lv ↔ ∃ (j : Nat) (v : Value), lv[j]? = some (some v) ∧ q = (i + j, ab_cv ad v)
  | [], i, q => by simp [ab_as]
  | none :: t, i, q => by
    rw [ab_as, ab_as_mem t (i + 1) q]
    constructor
    · rintro ⟨j, v, h, rfl⟩
      exact ⟨j + 1, v, by simpa using h, by simp; omega⟩
    · rintro ⟨j, v, h, rfl⟩
      cases j with
      | zero => simp at h
      | succ j => exact ⟨j, v, by simpa using h, by simp; omega⟩
  | some w :: t, i, q => by
    rw [ab_as, List.mem_cons, ab_as_mem t (i + 1) q]
    constructor
    · rintro (rfl | ⟨j, v, h, rfl⟩)
      · exact ⟨0, w, by simp, by simp⟩
      · exact ⟨j + 1, v, by simpa using h, by simp; omega⟩
    · rintro ⟨j, v, h, rfl⟩
      cases j with
      | zero => left; simp at h; subst h; rfl
      | succ j => right; exact ⟨j, v, by simpa using h, by simp; omega⟩
theorem ab_lok.has {ad : Nat → Nat} {nL : Nat} {ls : Array Slot} {lv : ab_L} (h : ab_lok ad nL ls lv) : lv_has ls nL (ab_as ad 0 lv) := by
  refine ⟨h.1, h.2.1, fun q hq => ?_⟩
  obtain ⟨j, v, hj, rfl⟩ := (ab_as_mem lv 0 q).mp hq
  simpa using h.2.2.2 j v hj
theorem ab_cv_cat (ad : Nat → Nat) (v : Value) : (ab_cv ad v).category = v.category := by
  cases v <;> rfl
theorem ab_nl_lt : ∀ (lv : ab_L) (i : Nat), ab_nl lv i = true → i < lv.length ∧ ∀ (j : Nat) (v : Value), i = j + 1 → lv[j]? = some (some v) → v.category ≠ 2
  | [], i, h => by simp [ab_nl] at h
  | a :: t, 0, h => ⟨by simp, fun j v e => by omega⟩
  | a :: t, 1, h => by
    simp only [ab_nl, Bool.and_eq_true] at h
    refine ⟨?_, fun j v e hj => ?_⟩
    · cases t with
      | nil => simp at h
      | cons _ _ => simp
    · have : j = 0 := by omega
      subst this
      simp at hj
      subst hj
      cases v <;> simp [Value.category] at h ⊢
  | a :: t, i + 2, h => by
    rw [ab_nl] at h
    obtain ⟨h1, h2⟩ := ab_nl_lt t (i + 1) h
    refine ⟨by simp; omega, fun j v e hj => ?_⟩
    cases j with
    | zero => omega
    | succ j => exact h2 j v (by omega) (by simpa using hj)
/-- a store of one word -/
theorem ab_lok.set1 {ad : Nat → Nat} {nL : Nat} {ls ls' : Array Slot} {lv : ab_L} (h : ab_lok ad nL ls lv) {i : Nat} {v : Value} (hn : ab_nl lv i = true) (h' : lv_has ls' nL ((i, ab_cv ad v) :: (ab_as ad 0 lv).filter (fun q => !(q.1 == i) && !(q.1 + 1 == i && q.2.category == 2)))) : ab_lok ad nL ls' (lv.set i (some v)) := by
  obtain ⟨hlt, hno⟩ := ab_nl_lt lv i hn
  refine ⟨h'.1, h'.2.1, by simpa using h.2.2.1, fun j w hj => ?_⟩
  rw [List.getElem?_set] at hj
  by_cases e : i = j
  · subst e
    simp [hlt] at hj
    subst hj
    exact h'.2.2 (i, ab_cv ad v) List.mem_cons_self
  · rw [if_neg e] at hj
    refine h'.2.2 (j, ab_cv ad w) (List.mem_cons_of_mem _ (List.mem_filter.mpr ⟨(ab_as_mem lv 0 _).mpr ⟨j, w, hj, by simp⟩, ?_⟩))
    have h1 : (j == i) = false := by simp; omega
    by_cases e2 : j + 1 = i
    · have := hno j w e2.symm hj
      simp [h1, ab_cv_cat, this]
    · simp [h1, e2]
/-- a store of two words -/
theorem ab_lok.set2 {ad : Nat → Nat} {nL : Nat} {ls ls' : Array Slot} {lv : ab_L} (h : ab_lok ad nL ls lv) {i : Nat} {v : Value} (hn : ab_nl lv i = true) (h' : lv_has ls' nL ((i, ab_cv ad v) :: (ab_as ad 0 lv).filter (fun q => !(q.1 == i) && (!(q.1 == i + 1) && !(q.1 + 1 == i && q.2.category == 2))))) : ab_lok ad nL ls' ((lv.set i (some v)).set (i + 1) none) := by
  obtain ⟨hlt, hno⟩ := ab_nl_lt lv i hn
  refine ⟨h'.1, h'.2.1, by simpa using h.2.2.1, fun j w hj => ?_⟩
  rw [List.getElem?_set] at hj
  by_cases e0 : i + 1 = j
  · subst e0
    simp at hj
  rw [if_neg e0, List.getElem?_set] at hj
  by_cases e : i = j
  · subst e
    simp [hlt] at hj
    subst hj
    exact h'.2.2 (i, ab_cv ad v) List.mem_cons_self
  · rw [if_neg e] at hj
    refine h'.2.2 (j, ab_cv ad w) (List.mem_cons_of_mem _ (List.mem_filter.mpr ⟨(ab_as_mem lv 0 _).mpr ⟨j, w, hj, by simp⟩, ?_⟩))
    have h1 : (j == i) = false := by simp; omega
    have h2 : (j == i + 1) = false := by simp; omega
    by_cases e2 : j + 1 = i
    · have := hno j w e2.symm hj
      simp [h1, h2, ab_cv_cat, this]
    · simp [h1, h2, e2]
theorem ab_in {i : Int32} {n : Nat} (h : 0 ≤ i ∧ i < Int32.ofNat n) (hn : n < 2 ^ 31) : vp_in i n := by
  rw [vp_in_iff]
  have h0 := Int32.le_iff_toInt_le.mp h.1
  have h1 := Int32.lt_iff_toInt_lt.mp h.2
  rw [show (Int32.ofNat n).toInt = (n : Int) from nI_toInt hn] at h1
  exact ⟨by simpa using h0, h1⟩
/-- a store where a number was -/
theorem ab_lok.set1' {ad : Nat → Nat} {nL : Nat} {ls ls' : Array Slot} {lv : ab_L} (h : ab_lok ad nL ls lv) {i : Nat} {u v : Value} (hi : lv[i]? = some (some u)) (h' : lv_has ls' nL ((i, ab_cv ad v) :: (ab_as ad 0 lv).filter (fun q => !(q.1 == i) && !(q.1 + 1 == i && q.2.category == 2)))) : ab_lok ad nL ls' (lv.set i (some v)) := by
  have hlt : i < lv.length := (List.getElem?_eq_some_iff.mp hi).1
  refine ⟨h'.1, h'.2.1, by simpa using h.2.2.1, fun j w hj => ?_⟩
  rw [List.getElem?_set] at hj
  by_cases e : i = j
  · subst e
    simp [hlt] at hj
    subst hj
    exact h'.2.2 (i, ab_cv ad v) List.mem_cons_self
  · rw [if_neg e] at hj
    refine h'.2.2 (j, ab_cv ad w) (List.mem_cons_of_mem _ (List.mem_filter.mpr ⟨(ab_as_mem lv 0 _).mpr ⟨j, w, hj, by simp⟩, ?_⟩))
    have h1 : (j == i) = false := by simp; omega
    by_cases e2 : j + 1 = i
    · have hne : w.category ≠ 2 := by
        intro h2
        have h3 := h.2.1.1 j (ab_cv ad w) (h.2.2.2 j w hj) (by rw [ab_cv_cat]; exact h2)
        rw [e2, h.2.2.2 i u hi] at h3
        cases h3
      simp [h1, ab_cv_cat, hne]
    · simp [h1, e2]
theorem ab_tg {pc : Nat} {off : Int} (h : 0 ≤ (pc : Int) + off) : (pc : Int) + off = (((pc : Int) + off).toNat : Int) := (Int.toNat_of_nonneg h).symm
theorem ab_tsw_spec {pc : Nat} {x : Int32} {kk : Nat → Prop} {d : Int} : ∀ (os : List Int) (lo : Int), ab_tsw pc x kk d lo os → ((x.toInt < lo ∨ lo + os.length ≤ x.toInt) ∧ 0 ≤ (pc : Int) + d ∧ kk ((pc : Int) + d).toNat) ∨ ∃ o : Int, lo ≤ x.toInt ∧ x.toInt < lo + os.length ∧ os[(x.toInt - lo).toNat]? = some o ∧ 0 ≤ (pc : Int) + o ∧ kk ((pc : Int) + o).toNat
  | [], lo, h => by
    left
    refine ⟨?_, h⟩
    simp
    omega
  | o :: os, lo, h => by
    rw [ab_tsw] at h
    by_cases e : x.toInt = lo
    · rw [if_pos e] at h
      right
      refine ⟨o, by omega, by simp; omega, ?_, h⟩
      simp [e]
    · rw [if_neg e] at h
      rcases ab_tsw_spec os (lo + 1) h with ⟨h1, h2⟩ | ⟨o', h1, h2, h3, h4⟩
      · left
        refine ⟨?_, h2⟩
        simp
        omega
      · right
        refine ⟨o', by omega, by simp; omega, ?_, h4⟩
        have : (x.toInt - lo).toNat = (x.toInt - (lo + 1)).toNat + 1 := by omega
        rw [this]
        simpa using h3
