/-! METHODS: Troop, Road, static ones -/
theorem bi_0 {c : Prop} [Decidable c] : ((if c then (1 : Int32) else 0) = 0) = ¬ c := by
  by_cases h : c <;> simp [h]
theorem bi_1 {c : Prop} [Decidable c] : ((if c then (1 : Int32) else 0) = 1) = c := by
  by_cases h : c <;> simp [h]
theorem bi_rn {c : Prop} [Decidable c] : ab_rn (some .boolean) (if c then 1 else 0) := by
  by_cases h : c <;> simp [h, ab_rn]
theorem i0_le (x : Int32) : (0 ≤ x) = ¬ x < 0 := by simp [Int32.not_lt]

/-- what a man has, as the class asks it -/
def pc_X (M : ab_M) (x : Int32) : Int32 := if ¬ x < 0 ∧ x < M.1 8 3 ∧ x < 5 then M.1 9 x.toNatClampNeg else 0
def kd_X (M : ab_M) (x : Int32) : Int32 := if ¬ x < 0 ∧ x < M.1 8 3 ∧ x < 5 then M.1 10 x.toNatClampNeg else (-9)
def td_X (M : ab_M) (x : Int32) : Int32 := if ¬ x < 0 ∧ x < M.1 8 3 ∧ x < 5 then M.1 11 x.toNatClampNeg else 0
def th_X (M : ab_M) (q : Nat) (x : Int32) : Int32 := if ¬ x < 0 ∧ x < 5 then M.1 (q + 1) x.toNatClampNeg else 0
def s_X7_count : ab_Sem := fun as M Po => match as with
  | [.ref 8] => Po (some (.int (M.1 8 3))) M
  | _ => False
theorem q_X7_count {M : ab_M} {Po : ab_P} : s_X7_count [.ref 8] M Po = (Po (some (.int (M.1 8 3))) M) := rfl
abbrev x_X7_count : ab_X := (some .int, fl_X7, [], kl_X7, gs_X7, ab_ros)
theorem r_X7_count : ∀ (as : List Value) (M : ab_M) (Po : ab_P), s_X7_count as M Po → ∃ (q : Nat) (as' : List Value) (ci : Nat) (T : u_T) (N : Nat) (fs : List ab_F), as = .ref q :: as' ∧ ab_sh[q]? = some (.inl (ci, fs)) ∧ vwCl[ci]? = some (yX7_count.cls, T, N) := by
  intro as M Po h
  unfold s_X7_count at h
  split at h
  · first | exact ⟨_, _, 7, _, _, _, rfl, rfl, rfl⟩ | (rcases h.1 with rfl | rfl | rfl <;> exact ⟨_, _, 7, _, _, _, rfl, rfl, rfl⟩)
  · exact h.elim
set_option maxRecDepth 20000 in
set_option maxHeartbeats 4000000 in
theorem c_X7_count {l : Launch} : ab_ctr l yX7_count cX7_count 1 (some .int) 0 0 s_X7_count := by
  refine ab_met x_X7_count (by decide) rfl fo_X7 ko_X7 so_X7 rfl ab_cs_nil ?_ ?_
  · intro as M Po h
    unfold s_X7_count at h
    split at h
    · simp [ab_e0]
    · exact h.elim
  · intro as M Po h G hG
    unfold s_X7_count at h
    split at h
    · refine ab_go hG [] 60 _ _ _ _ ?_
      simp only [ab_en, ab_e0, List.length_cons, List.length_nil, Nat.reduceAdd, Nat.reduceSub, List.replicate, List.cons_append, List.nil_append]
      simp (decide := true) only [ew_n, ew_0, Option.toList_some, Option.toList_none, List.cons_append, List.nil_append, true_and, and_true, List.length_cons, List.length_nil, Nat.reduceAdd, Nat.reduceLeDiff, Int32.reduceAdd, Int32.reduceSub, Int32.reduceMul, Int32.reduceLT, Int32.reduceLE, Int32.reduceToNatClampNeg, ↓reduceIte, and_self, si_1, si_2, sl_1, sl_2, false_and, and_false, dX7_count_0, dX7_count_1, dX7_count_4, e_aload_n0, e_getfield, e_ireturn, gf_X7_21_8, ab_rn, bi_0, bi_1, ite_not]
      exact h
    · exact h.elim

def s_X7_empty : ab_Sem := fun as M Po => match as with
  | [.ref 8] => Po none (ab_si M 8 3 0)
  | _ => False
theorem q_X7_empty {M : ab_M} {Po : ab_P} : s_X7_empty [.ref 8] M Po = (Po none (ab_si M 8 3 0)) := rfl
abbrev x_X7_empty : ab_X := (none, fl_X7, [], kl_X7, gs_X7, ab_ros)
theorem r_X7_empty : ∀ (as : List Value) (M : ab_M) (Po : ab_P), s_X7_empty as M Po → ∃ (q : Nat) (as' : List Value) (ci : Nat) (T : u_T) (N : Nat) (fs : List ab_F), as = .ref q :: as' ∧ ab_sh[q]? = some (.inl (ci, fs)) ∧ vwCl[ci]? = some (yX7_empty.cls, T, N) := by
  intro as M Po h
  unfold s_X7_empty at h
  split at h
  · first | exact ⟨_, _, 7, _, _, _, rfl, rfl, rfl⟩ | (rcases h.1 with rfl | rfl | rfl <;> exact ⟨_, _, 7, _, _, _, rfl, rfl, rfl⟩)
  · exact h.elim
set_option maxRecDepth 20000 in
set_option maxHeartbeats 4000000 in
theorem c_X7_empty {l : Launch} : ab_ctr l yX7_empty cX7_empty 1 none 0 0 s_X7_empty := by
  refine ab_met x_X7_empty (by decide) rfl fo_X7 ko_X7 so_X7 rfl ab_cs_nil ?_ ?_
  · intro as M Po h
    unfold s_X7_empty at h
    split at h
    · simp [ab_e0]
    · exact h.elim
  · intro as M Po h G hG
    unfold s_X7_empty at h
    split at h
    · refine ab_go hG [] 60 _ _ _ _ ?_
      simp only [ab_en, ab_e0, List.length_cons, List.length_nil, Nat.reduceAdd, Nat.reduceSub, List.replicate, List.cons_append, List.nil_append]
      simp (decide := true) only [ew_n, ew_0, Option.toList_some, Option.toList_none, List.cons_append, List.nil_append, true_and, and_true, List.length_cons, List.length_nil, Nat.reduceAdd, Nat.reduceLeDiff, Int32.reduceAdd, Int32.reduceSub, Int32.reduceMul, Int32.reduceLT, Int32.reduceLE, Int32.reduceToNatClampNeg, ↓reduceIte, and_self, si_1, si_2, sl_1, sl_2, false_and, and_false, dX7_empty_0, dX7_empty_1, dX7_empty_2, dX7_empty_5, e_aload_n0, e_putfield, e_return, j_ic_0, pf_X7_21_8, ab_rn, bi_0, bi_1, ite_not]
      exact h
    · exact h.elim

def s_X7_has : ab_Sem := fun as M Po => match as with
  | [.ref 8, .int x] => Po (some (.int (if ¬ x < 0 ∧ x < M.1 8 3 ∧ x < 5 then 1 else 0))) M
  | _ => False
theorem q_X7_has {x : Int32} {M : ab_M} {Po : ab_P} : s_X7_has [.ref 8, .int x] M Po = (Po (some (.int (if ¬ x < 0 ∧ x < M.1 8 3 ∧ x < 5 then 1 else 0))) M) := rfl
abbrev x_X7_has : ab_X := (some .boolean, fl_X7, [], kl_X7, gs_X7, ab_ros)
theorem r_X7_has : ∀ (as : List Value) (M : ab_M) (Po : ab_P), s_X7_has as M Po → ∃ (q : Nat) (as' : List Value) (ci : Nat) (T : u_T) (N : Nat) (fs : List ab_F), as = .ref q :: as' ∧ ab_sh[q]? = some (.inl (ci, fs)) ∧ vwCl[ci]? = some (yX7_has.cls, T, N) := by
  intro as M Po h
  unfold s_X7_has at h
  split at h
  · first | exact ⟨_, _, 7, _, _, _, rfl, rfl, rfl⟩ | (rcases h.1 with rfl | rfl | rfl <;> exact ⟨_, _, 7, _, _, _, rfl, rfl, rfl⟩)
  · exact h.elim
set_option maxRecDepth 20000 in
set_option maxHeartbeats 4000000 in
theorem c_X7_has {l : Launch} : ab_ctr l yX7_has cX7_has 2 (some .boolean) 0 0 s_X7_has := by
  refine ab_met x_X7_has (by decide) rfl fo_X7 ko_X7 so_X7 rfl ab_cs_nil ?_ ?_
  · intro as M Po h
    unfold s_X7_has at h
    split at h
    · simp [ab_e0]
    · exact h.elim
  · intro as M Po h G hG
    unfold s_X7_has at h
    split at h
    · refine ab_go hG [] 60 _ _ _ _ ?_
      simp only [ab_en, ab_e0, List.length_cons, List.length_nil, Nat.reduceAdd, Nat.reduceSub, List.replicate, List.cons_append, List.nil_append]
      simp (decide := true) only [ew_n, ew_0, Option.toList_some, Option.toList_none, List.cons_append, List.nil_append, true_and, and_true, List.length_cons, List.length_nil, Nat.reduceAdd, Nat.reduceLeDiff, Int32.reduceAdd, Int32.reduceSub, Int32.reduceMul, Int32.reduceLT, Int32.reduceLE, Int32.reduceToNatClampNeg, ↓reduceIte, and_self, si_1, si_2, sl_1, sl_2, false_and, and_false, dX7_has_0, dX7_has_1, dX7_has_4, dX7_has_5, dX7_has_6, dX7_has_9, dX7_has_12, dX7_has_13, dX7_has_14, dX7_has_17, dX7_has_18, dX7_has_21, dX7_has_22, e_aload_n0, e_getfield, e_iload_n1, e_ireturn, gf_X7_21_8, j_goto_18_4, j_ic_0, j_ic_1, j_ic_5, j_icmp_ge_14_7, j_icmp_ge_9_12, j_if_lt_1_20, ab_rn, bi_0, bi_1, ite_not]
      (repeat' split) <;> (try simp (decide := true) only [i0_le, *, not_false_eq_true, not_true_eq_false, and_self, true_and, and_true, or_false, false_or, or_true, true_or, false_and, and_false, not_and, ↓reduceIte] at h) <;> (try simp (decide := true) only [i0_le, *, not_false_eq_true, not_true_eq_false, and_self, true_and, and_true, or_false, false_or, or_true, true_or, false_and, and_false, not_and, ↓reduceIte]) <;> first | done | exact h | skip
    · exact h.elim

def s_X7_paceOf : ab_Sem := fun as M Po => match as with
  | [.ref 8, .int x] => Po (some (.int (pc_X M x))) M
  | _ => False
theorem q_X7_paceOf {x : Int32} {M : ab_M} {Po : ab_P} : s_X7_paceOf [.ref 8, .int x] M Po = (Po (some (.int (pc_X M x))) M) := rfl
abbrev x_X7_paceOf : ab_X := (some .int, fl_X7, [], kl_X7, gs_X7, ab_ros)
theorem r_X7_paceOf : ∀ (as : List Value) (M : ab_M) (Po : ab_P), s_X7_paceOf as M Po → ∃ (q : Nat) (as' : List Value) (ci : Nat) (T : u_T) (N : Nat) (fs : List ab_F), as = .ref q :: as' ∧ ab_sh[q]? = some (.inl (ci, fs)) ∧ vwCl[ci]? = some (yX7_paceOf.cls, T, N) := by
  intro as M Po h
  unfold s_X7_paceOf at h
  split at h
  · first | exact ⟨_, _, 7, _, _, _, rfl, rfl, rfl⟩ | (rcases h.1 with rfl | rfl | rfl <;> exact ⟨_, _, 7, _, _, _, rfl, rfl, rfl⟩)
  · exact h.elim
set_option maxRecDepth 20000 in
set_option maxHeartbeats 4000000 in
theorem c_X7_paceOf {l : Launch} : ab_ctr l yX7_paceOf cX7_paceOf 2 (some .int) 0 0 s_X7_paceOf := by
  refine ab_met x_X7_paceOf (by decide) rfl fo_X7 ko_X7 so_X7 rfl ab_cs_nil ?_ ?_
  · intro as M Po h
    unfold s_X7_paceOf at h
    split at h
    · simp [ab_e0]
    · exact h.elim
  · intro as M Po h G hG
    unfold s_X7_paceOf at h
    split at h
    · refine ab_go hG [] 60 _ _ _ _ ?_
      simp only [ab_en, ab_e0, List.length_cons, List.length_nil, Nat.reduceAdd, Nat.reduceSub, List.replicate, List.cons_append, List.nil_append]
      simp (decide := true) only [ew_n, ew_0, Option.toList_some, Option.toList_none, List.cons_append, List.nil_append, true_and, and_true, List.length_cons, List.length_nil, Nat.reduceAdd, Nat.reduceLeDiff, Int32.reduceAdd, Int32.reduceSub, Int32.reduceMul, Int32.reduceLT, Int32.reduceLE, Int32.reduceToNatClampNeg, ↓reduceIte, and_self, si_1, si_2, sl_1, sl_2, false_and, and_false, dX7_paceOf_0, dX7_paceOf_1, dX7_paceOf_4, dX7_paceOf_5, dX7_paceOf_6, dX7_paceOf_9, dX7_paceOf_12, dX7_paceOf_13, dX7_paceOf_14, dX7_paceOf_17, dX7_paceOf_18, dX7_paceOf_21, dX7_paceOf_22, dX7_paceOf_25, dX7_paceOf_26, dX7_paceOf_27, dX7_paceOf_30, dX7_paceOf_31, e_alen, e_aload_n0, e_getfield, e_iaload, e_iload_n1, e_ireturn, ea_9, el_9, gf_X7_21_8, gf_X7_9_8, j_goto_27_4, j_ic_0, j_icmp_ge_18_12, j_icmp_ge_9_21, j_if_lt_1_29, ab_rn, bi_0, bi_1, ite_not]
      (repeat' split) <;> (try simp (decide := true) only [pc_X, i0_le, *, not_false_eq_true, not_true_eq_false, and_self, true_and, and_true, or_false, false_or, or_true, true_or, false_and, and_false, not_and, ↓reduceIte] at h) <;> (try simp (decide := true) only [i0_le, *, not_false_eq_true, not_true_eq_false, and_self, true_and, and_true, or_false, false_or, or_true, true_or, false_and, and_false, not_and, ↓reduceIte]) <;> first | done | exact h | skip
    · exact h.elim

def s_X7_kindOf : ab_Sem := fun as M Po => match as with
  | [.ref 8, .int x] => Po (some (.int (kd_X M x))) M
  | _ => False
theorem q_X7_kindOf {x : Int32} {M : ab_M} {Po : ab_P} : s_X7_kindOf [.ref 8, .int x] M Po = (Po (some (.int (kd_X M x))) M) := rfl
abbrev x_X7_kindOf : ab_X := (some .int, fl_X7, [], kl_X7, gs_X7, ab_ros)
theorem r_X7_kindOf : ∀ (as : List Value) (M : ab_M) (Po : ab_P), s_X7_kindOf as M Po → ∃ (q : Nat) (as' : List Value) (ci : Nat) (T : u_T) (N : Nat) (fs : List ab_F), as = .ref q :: as' ∧ ab_sh[q]? = some (.inl (ci, fs)) ∧ vwCl[ci]? = some (yX7_kindOf.cls, T, N) := by
  intro as M Po h
  unfold s_X7_kindOf at h
  split at h
  · first | exact ⟨_, _, 7, _, _, _, rfl, rfl, rfl⟩ | (rcases h.1 with rfl | rfl | rfl <;> exact ⟨_, _, 7, _, _, _, rfl, rfl, rfl⟩)
  · exact h.elim
set_option maxRecDepth 20000 in
set_option maxHeartbeats 4000000 in
theorem c_X7_kindOf {l : Launch} : ab_ctr l yX7_kindOf cX7_kindOf 2 (some .int) 0 0 s_X7_kindOf := by
  refine ab_met x_X7_kindOf (by decide) rfl fo_X7 ko_X7 so_X7 rfl ab_cs_nil ?_ ?_
  · intro as M Po h
    unfold s_X7_kindOf at h
    split at h
    · simp [ab_e0]
    · exact h.elim
  · intro as M Po h G hG
    unfold s_X7_kindOf at h
    split at h
    · refine ab_go hG [] 60 _ _ _ _ ?_
      simp only [ab_en, ab_e0, List.length_cons, List.length_nil, Nat.reduceAdd, Nat.reduceSub, List.replicate, List.cons_append, List.nil_append]
      simp (decide := true) only [ew_n, ew_0, Option.toList_some, Option.toList_none, List.cons_append, List.nil_append, true_and, and_true, List.length_cons, List.length_nil, Nat.reduceAdd, Nat.reduceLeDiff, Int32.reduceAdd, Int32.reduceSub, Int32.reduceMul, Int32.reduceLT, Int32.reduceLE, Int32.reduceToNatClampNeg, ↓reduceIte, and_self, si_1, si_2, sl_1, sl_2, false_and, and_false, dX7_kindOf_0, dX7_kindOf_1, dX7_kindOf_4, dX7_kindOf_5, dX7_kindOf_6, dX7_kindOf_9, dX7_kindOf_12, dX7_kindOf_13, dX7_kindOf_14, dX7_kindOf_17, dX7_kindOf_18, dX7_kindOf_21, dX7_kindOf_22, dX7_kindOf_25, dX7_kindOf_26, dX7_kindOf_27, dX7_kindOf_30, dX7_kindOf_32, e_alen, e_aload_n0, e_getfield, e_iaload, e_iload_n1, e_ireturn, ea_10, el_10, gf_X7_15_8, gf_X7_21_8, j_bp_m9, j_goto_27_5, j_icmp_ge_18_12, j_icmp_ge_9_21, j_if_lt_1_29, ab_rn, bi_0, bi_1, ite_not]
      (repeat' split) <;> (try simp (decide := true) only [kd_X, i0_le, *, not_false_eq_true, not_true_eq_false, and_self, true_and, and_true, or_false, false_or, or_true, true_or, false_and, and_false, not_and, ↓reduceIte] at h) <;> (try simp (decide := true) only [i0_le, *, not_false_eq_true, not_true_eq_false, and_self, true_and, and_true, or_false, false_or, or_true, true_or, false_and, and_false, not_and, ↓reduceIte]) <;> first | done | exact h | skip
    · exact h.elim

def s_X7_toldThornsOf : ab_Sem := fun as M Po => match as with
  | [.ref 8, .int x] => Po (some (.int (td_X M x))) M
  | _ => False
theorem q_X7_toldThornsOf {x : Int32} {M : ab_M} {Po : ab_P} : s_X7_toldThornsOf [.ref 8, .int x] M Po = (Po (some (.int (td_X M x))) M) := rfl
abbrev x_X7_toldThornsOf : ab_X := (some .int, fl_X7, [(50, 2, s_X7_has)], kl_X7, gs_X7, ab_ros)
theorem ca_X7_toldThornsOf_25 {v0 v1 : Value} {st : List Value} {M : ab_M} {k : List Value → ab_M → Prop} : ab_ca x_X7_toldThornsOf (2 * 25) (v1 :: v0 :: st) M k = (st.length ≤ 4 ∧ s_X7_has [v0, v1] M (fun r M' => k (r.toList ++ st) M')) := rfl
theorem r_X7_toldThornsOf : ∀ (as : List Value) (M : ab_M) (Po : ab_P), s_X7_toldThornsOf as M Po → ∃ (q : Nat) (as' : List Value) (ci : Nat) (T : u_T) (N : Nat) (fs : List ab_F), as = .ref q :: as' ∧ ab_sh[q]? = some (.inl (ci, fs)) ∧ vwCl[ci]? = some (yX7_toldThornsOf.cls, T, N) := by
  intro as M Po h
  unfold s_X7_toldThornsOf at h
  split at h
  · first | exact ⟨_, _, 7, _, _, _, rfl, rfl, rfl⟩ | (rcases h.1 with rfl | rfl | rfl <;> exact ⟨_, _, 7, _, _, _, rfl, rfl, rfl⟩)
  · exact h.elim
set_option maxRecDepth 20000 in
set_option maxHeartbeats 4000000 in
theorem c_X7_toldThornsOf {l : Launch} : ab_ctr l yX7_toldThornsOf cX7_toldThornsOf 2 (some .int) 1 21 s_X7_toldThornsOf := by
  refine ab_met x_X7_toldThornsOf (by decide) rfl fo_X7 ko_X7 so_X7 rfl (ab_cs_cons (ab_kV c_X7_has ml_X7_25 v_X7_has ⟨rfl, rfl⟩ r_X7_has) ab_cs_nil) ?_ ?_
  · intro as M Po h
    unfold s_X7_toldThornsOf at h
    split at h
    · simp [ab_e0]
    · exact h.elim
  · intro as M Po h G hG
    unfold s_X7_toldThornsOf at h
    split at h
    · refine ab_go hG [] 60 _ _ _ _ ?_
      simp only [ab_en, ab_e0, List.length_cons, List.length_nil, Nat.reduceAdd, Nat.reduceSub, List.replicate, List.cons_append, List.nil_append]
      simp (decide := true) only [ew_n, ew_0, Option.toList_some, Option.toList_none, List.cons_append, List.nil_append, true_and, and_true, List.length_cons, List.length_nil, Nat.reduceAdd, Nat.reduceLeDiff, Int32.reduceAdd, Int32.reduceSub, Int32.reduceMul, Int32.reduceLT, Int32.reduceLE, Int32.reduceToNatClampNeg, ↓reduceIte, and_self, si_1, si_2, sl_1, sl_2, false_and, and_false, dX7_toldThornsOf_0, dX7_toldThornsOf_1, dX7_toldThornsOf_2, dX7_toldThornsOf_5, dX7_toldThornsOf_8, dX7_toldThornsOf_9, dX7_toldThornsOf_12, dX7_toldThornsOf_13, dX7_toldThornsOf_14, dX7_toldThornsOf_17, dX7_toldThornsOf_18, ca_X7_toldThornsOf_25, e_aload_n0, e_callv, e_getfield, e_iaload, e_iload_n1, e_ireturn, ea_11, gf_X7_18_8, j_goto_14_4, j_ic_0, j_if_eq_5_12, q_X7_has, ab_rn, bi_0, bi_1, ite_not]
      (repeat' split) <;> (try simp (decide := true) only [td_X, i0_le, *, not_false_eq_true, not_true_eq_false, and_self, true_and, and_true, or_false, false_or, or_true, true_or, false_and, and_false, not_and, ↓reduceIte] at h) <;> (try simp (decide := true) only [i0_le, *, not_false_eq_true, not_true_eq_false, and_self, true_and, and_true, or_false, false_or, or_true, true_or, false_and, and_false, not_and, ↓reduceIte]) <;> first | done | exact h | skip
    · exact h.elim

def s_X7_add : ab_Sem := fun as M Po => match as with
  | [.ref 8, .int p, .int k, .int t] => Po none (if M.1 8 3 < 0 then M else if M.1 8 3 < 5 then ab_si (ab_si (ab_si (ab_si M 9 (M.1 8 3).toNatClampNeg p) 10 (M.1 8 3).toNatClampNeg k) 11 (M.1 8 3).toNatClampNeg t) 8 3 (M.1 8 3 + 1) else M)
  | _ => False
theorem q_X7_add {p k t : Int32} {M : ab_M} {Po : ab_P} : s_X7_add [.ref 8, .int p, .int k, .int t] M Po = (Po none (if M.1 8 3 < 0 then M else if M.1 8 3 < 5 then ab_si (ab_si (ab_si (ab_si M 9 (M.1 8 3).toNatClampNeg p) 10 (M.1 8 3).toNatClampNeg k) 11 (M.1 8 3).toNatClampNeg t) 8 3 (M.1 8 3 + 1) else M)) := rfl
abbrev x_X7_add : ab_X := (none, fl_X7, [], kl_X7, gs_X7, ab_ros)
theorem r_X7_add : ∀ (as : List Value) (M : ab_M) (Po : ab_P), s_X7_add as M Po → ∃ (q : Nat) (as' : List Value) (ci : Nat) (T : u_T) (N : Nat) (fs : List ab_F), as = .ref q :: as' ∧ ab_sh[q]? = some (.inl (ci, fs)) ∧ vwCl[ci]? = some (yX7_add.cls, T, N) := by
  intro as M Po h
  unfold s_X7_add at h
  split at h
  · first | exact ⟨_, _, 7, _, _, _, rfl, rfl, rfl⟩ | (rcases h.1 with rfl | rfl | rfl <;> exact ⟨_, _, 7, _, _, _, rfl, rfl, rfl⟩)
  · exact h.elim
set_option maxRecDepth 20000 in
set_option maxHeartbeats 4000000 in
theorem c_X7_add {l : Launch} : ab_ctr l yX7_add cX7_add 4 none 0 0 s_X7_add := by
  refine ab_met x_X7_add (by decide) rfl fo_X7 ko_X7 so_X7 rfl ab_cs_nil ?_ ?_
  · intro as M Po h
    unfold s_X7_add at h
    split at h
    · simp [ab_e0]
    · exact h.elim
  · intro as M Po h G hG
    unfold s_X7_add at h
    split at h
    · refine ab_go hG [] 60 _ _ _ _ ?_
      simp only [ab_en, ab_e0, List.length_cons, List.length_nil, Nat.reduceAdd, Nat.reduceSub, List.replicate, List.cons_append, List.nil_append]
      simp (decide := true) only [ew_n, ew_0, Option.toList_some, Option.toList_none, List.cons_append, List.nil_append, true_and, and_true, List.length_cons, List.length_nil, Nat.reduceAdd, Nat.reduceLeDiff, Int32.reduceAdd, Int32.reduceSub, Int32.reduceMul, Int32.reduceLT, Int32.reduceLE, Int32.reduceToNatClampNeg, ↓reduceIte, and_self, si_1, si_2, sl_1, sl_2, false_and, and_false, dX7_add_0, dX7_add_1, dX7_add_4, dX7_add_7, dX7_add_8, dX7_add_11, dX7_add_12, dX7_add_15, dX7_add_16, dX7_add_17, dX7_add_20, dX7_add_21, dX7_add_24, dX7_add_25, dX7_add_26, dX7_add_27, dX7_add_30, dX7_add_31, dX7_add_34, dX7_add_35, dX7_add_36, dX7_add_37, dX7_add_40, dX7_add_41, dX7_add_44, dX7_add_45, dX7_add_46, dX7_add_47, dX7_add_48, dX7_add_51, dX7_add_52, dX7_add_53, dX7_add_56, e_aload_n0, e_dupi, e_dupr, e_getfield, e_iadd, e_iastore, e_iload_n1, e_iload_n2, e_iload_n3, e_putfield, e_return, es_10, es_11, es_9, gf_X7_15_8, gf_X7_18_8, gf_X7_21_8, gf_X7_9_8, j_ic_1, j_ic_5, j_icmp_lt_12_4, j_if_lt_4_11, pf_X7_21_8, ab_rn, bi_0, bi_1, ite_not]
      (repeat' split) <;> (try simp (decide := true) only [i0_le, *, not_false_eq_true, not_true_eq_false, and_self, true_and, and_true, or_false, false_or, or_true, true_or, false_and, and_false, not_and, ↓reduceIte] at h) <;> (try simp (decide := true) only [i0_le, *, not_false_eq_true, not_true_eq_false, and_self, true_and, and_true, or_false, false_or, or_true, true_or, false_and, and_false, not_and, ↓reduceIte]) <;> first | done | exact h | skip
    · exact h.elim

def s_X8_isChoice : ab_Sem := fun as M Po => match as with
  | [.int x] => Po (some (.int (if x = 0 ∨ x = 1 then 1 else 0))) M
  | _ => False
theorem q_X8_isChoice {x : Int32} {M : ab_M} {Po : ab_P} : s_X8_isChoice [.int x] M Po = (Po (some (.int (if x = 0 ∨ x = 1 then 1 else 0))) M) := rfl
abbrev x_X8_isChoice : ab_X := (some .boolean, fl_X8, [], kl_X8, gs_X8, ab_ros)
set_option maxRecDepth 20000 in
set_option maxHeartbeats 4000000 in
theorem c_X8_isChoice {l : Launch} : ab_ctr l yX8_isChoice cX8_isChoice 1 (some .boolean) 0 0 s_X8_isChoice := by
  refine ab_met x_X8_isChoice (by decide) rfl fo_X8 ko_X8 so_X8 rfl ab_cs_nil ?_ ?_
  · intro as M Po h
    unfold s_X8_isChoice at h
    split at h
    · simp [ab_e0]
    · exact h.elim
  · intro as M Po h G hG
    unfold s_X8_isChoice at h
    split at h
    · refine ab_go hG [] 60 _ _ _ _ ?_
      simp only [ab_en, ab_e0, List.length_cons, List.length_nil, Nat.reduceAdd, Nat.reduceSub, List.replicate, List.cons_append, List.nil_append]
      simp (decide := true) only [ew_n, ew_0, Option.toList_some, Option.toList_none, List.cons_append, List.nil_append, true_and, and_true, List.length_cons, List.length_nil, Nat.reduceAdd, Nat.reduceLeDiff, Int32.reduceAdd, Int32.reduceSub, Int32.reduceMul, Int32.reduceLT, Int32.reduceLE, Int32.reduceToNatClampNeg, ↓reduceIte, and_self, si_1, si_2, sl_1, sl_2, false_and, and_false, dX8_isChoice_0, dX8_isChoice_1, dX8_isChoice_4, dX8_isChoice_5, dX8_isChoice_6, dX8_isChoice_9, dX8_isChoice_10, dX8_isChoice_13, dX8_isChoice_14, e_iload_n0, e_ireturn, j_goto_10_4, j_ic_0, j_ic_1, j_icmp_ne_6_7, j_if_eq_1_8, ab_rn, bi_0, bi_1, ite_not]
      (repeat' split) <;> (try simp (decide := true) only [i0_le, *, not_false_eq_true, not_true_eq_false, and_self, true_and, and_true, or_false, false_or, or_true, true_or, false_and, and_false, not_and, ↓reduceIte] at h) <;> (try simp (decide := true) only [i0_le, *, not_false_eq_true, not_true_eq_false, and_self, true_and, and_true, or_false, false_or, or_true, true_or, false_and, and_false, not_and, ↓reduceIte]) <;> first | done | exact h | skip
    · exact h.elim

/-- how far a thorn slows, by kind -/
def sw_X (k : Int32) : Int32 := if k < 0 then 0 else if k < 4 then tb_100 k.toNatClampNeg else 0
def fc_X (x : Int32) : Int32 := if x < 0 then 1 else if x < 6 then tb_101 x.toNatClampNeg else 1
def sp_X (p k t : Int32) : Int32 := if p - sw_X k * t < 1 then 1 else p - sw_X k * t
def s_X8_factorial : ab_Sem := fun as M Po => match as with
  | [.int x] => Po (some (.int (fc_X x))) M
  | _ => False
theorem q_X8_factorial {x : Int32} {M : ab_M} {Po : ab_P} : s_X8_factorial [.int x] M Po = (Po (some (.int (fc_X x))) M) := rfl
abbrev x_X8_factorial : ab_X := (some .int, fl_X8, [], kl_X8, gs_X8, ab_ros)
set_option maxRecDepth 20000 in
set_option maxHeartbeats 4000000 in
theorem c_X8_factorial {l : Launch} : ab_ctr l yX8_factorial cX8_factorial 1 (some .int) 0 0 s_X8_factorial := by
  refine ab_met x_X8_factorial (by decide) rfl fo_X8 ko_X8 so_X8 rfl ab_cs_nil ?_ ?_
  · intro as M Po h
    unfold s_X8_factorial at h
    split at h
    · simp [ab_e0]
    · exact h.elim
  · intro as M Po h G hG
    unfold s_X8_factorial at h
    split at h
    · refine ab_go hG [] 60 _ _ _ _ ?_
      simp only [ab_en, ab_e0, List.length_cons, List.length_nil, Nat.reduceAdd, Nat.reduceSub, List.replicate, List.cons_append, List.nil_append]
      simp (decide := true) only [ew_n, ew_0, Option.toList_some, Option.toList_none, List.cons_append, List.nil_append, true_and, and_true, List.length_cons, List.length_nil, Nat.reduceAdd, Nat.reduceLeDiff, Int32.reduceAdd, Int32.reduceSub, Int32.reduceMul, Int32.reduceLT, Int32.reduceLE, Int32.reduceToNatClampNeg, ↓reduceIte, and_self, si_1, si_2, sl_1, sl_2, false_and, and_false, dX8_factorial_0, dX8_factorial_1, dX8_factorial_4, dX8_factorial_5, dX8_factorial_8, dX8_factorial_9, dX8_factorial_12, dX8_factorial_15, dX8_factorial_16, dX8_factorial_17, dX8_factorial_20, dX8_factorial_21, e_alen, e_gs_X8_273, e_iaload, e_iload_n0, e_ireturn, ea_101, el_101, j_goto_17_4, j_ic_1, j_icmp_ge_9_11, j_if_lt_1_19, ab_rn, bi_0, bi_1, ite_not]
      (repeat' split) <;> (try simp (decide := true) only [fc_X, i0_le, *, not_false_eq_true, not_true_eq_false, and_self, true_and, and_true, or_false, false_or, or_true, true_or, false_and, and_false, not_and, ↓reduceIte] at h) <;> (try simp (decide := true) only [i0_le, *, not_false_eq_true, not_true_eq_false, and_self, true_and, and_true, or_false, false_or, or_true, true_or, false_and, and_false, not_and, ↓reduceIte]) <;> first | done | exact h | skip
    · exact h.elim

def s_X8_speedBy : ab_Sem := fun as M Po => match as with
  | [.int p, .int k, .int t] => Po (some (.int (sp_X p k t))) M
  | _ => False
theorem q_X8_speedBy {p k t : Int32} {M : ab_M} {Po : ab_P} : s_X8_speedBy [.int p, .int k, .int t] M Po = (Po (some (.int (sp_X p k t))) M) := rfl
abbrev x_X8_speedBy : ab_X := (some .int, fl_X8, [], kl_X8, gs_X8, ab_ros)
set_option maxRecDepth 20000 in
set_option maxHeartbeats 4000000 in
theorem c_X8_speedBy {l : Launch} : ab_ctr l yX8_speedBy cX8_speedBy 5 (some .int) 0 0 s_X8_speedBy := by
  refine ab_met x_X8_speedBy (by decide) rfl fo_X8 ko_X8 so_X8 rfl ab_cs_nil ?_ ?_
  · intro as M Po h
    unfold s_X8_speedBy at h
    split at h
    · simp [ab_e0]
    · exact h.elim
  · intro as M Po h G hG
    unfold s_X8_speedBy at h
    split at h
    · refine ab_go hG [] 60 _ _ _ _ ?_
      simp only [ab_en, ab_e0, List.length_cons, List.length_nil, Nat.reduceAdd, Nat.reduceSub, List.replicate, List.cons_append, List.nil_append]
      simp (decide := true) only [ew_n, ew_0, Option.toList_some, Option.toList_none, List.cons_append, List.nil_append, true_and, and_true, List.length_cons, List.length_nil, Nat.reduceAdd, Nat.reduceLeDiff, Int32.reduceAdd, Int32.reduceSub, Int32.reduceMul, Int32.reduceLT, Int32.reduceLE, Int32.reduceToNatClampNeg, ↓reduceIte, and_self, si_1, si_2, sl_1, sl_2, false_and, and_false, dX8_speedBy_0, dX8_speedBy_1, dX8_speedBy_4, dX8_speedBy_5, dX8_speedBy_8, dX8_speedBy_9, dX8_speedBy_12, dX8_speedBy_15, dX8_speedBy_16, dX8_speedBy_17, dX8_speedBy_20, dX8_speedBy_21, dX8_speedBy_22, dX8_speedBy_23, dX8_speedBy_24, dX8_speedBy_25, dX8_speedBy_26, dX8_speedBy_27, dX8_speedBy_29, dX8_speedBy_31, dX8_speedBy_32, dX8_speedBy_35, dX8_speedBy_36, dX8_speedBy_39, dX8_speedBy_41, e_alen, e_gs_X8_277, e_iaload, e_iload4, e_iload_n0, e_iload_n1, e_iload_n2, e_iload_n3, e_imul, e_ireturn, e_istore4i, e_istore4n, e_istore4r, e_istore_n3i, e_istore_n3n, e_istore_n3r, e_isub, ea_100, el_100, j_goto_17_4, j_goto_36_5, j_ic_0, j_ic_1, j_icmp_ge_32_7, j_icmp_ge_9_11, j_if_lt_1_19, ab_rn, bi_0, bi_1, ite_not]
      (repeat' split) <;> (try simp (decide := true) only [sp_X, sw_X, i0_le, *, not_false_eq_true, not_true_eq_false, and_self, true_and, and_true, or_false, false_or, or_true, true_or, false_and, and_false, not_and, ↓reduceIte] at h) <;> (try simp (decide := true) only [i0_le, *, not_false_eq_true, not_true_eq_false, and_self, true_and, and_true, or_false, false_or, or_true, true_or, false_and, and_false, not_and, ↓reduceIte]) <;> first | done | exact h | skip
    · exact h.elim

