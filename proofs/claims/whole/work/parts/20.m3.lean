/-! METHODS: small ones of Road, Text, Acts, Trials -/
def sa_X (M : ab_M) (x : Int32) : Int32 := if ¬ x < 0 ∧ x < M.1 3 5 ∧ x < 72 then M.1 7 x.toNatClampNeg else (-9)
def go_X (M : ab_M) (x : Int32) : Int32 := if ¬ x < 0 ∧ x < M.1 3 4 ∧ x < 8 then M.1 5 x.toNatClampNeg else (-9)
def s_X4_count : ab_Sem := fun as M Po => match as with
  | [.ref 3] => Po (some (.int (M.1 3 4))) M
  | _ => False
theorem q_X4_count {M : ab_M} {Po : ab_P} : s_X4_count [.ref 3] M Po = (Po (some (.int (M.1 3 4))) M) := rfl
abbrev x_X4_count : ab_X := (some .int, fl_X4, [], kl_X4, gs_X4, ab_ros)
theorem r_X4_count : ∀ (as : List Value) (M : ab_M) (Po : ab_P), s_X4_count as M Po → ∃ (q : Nat) (as' : List Value) (ci : Nat) (T : u_T) (N : Nat) (fs : List ab_F), as = .ref q :: as' ∧ ab_sh[q]? = some (.inl (ci, fs)) ∧ vwCl[ci]? = some (yX4_count.cls, T, N) := by
  intro as M Po h
  unfold s_X4_count at h
  split at h
  · first | exact ⟨_, _, 4, _, _, _, rfl, rfl, rfl⟩ | (rcases h.1 with rfl | rfl | rfl <;> exact ⟨_, _, 4, _, _, _, rfl, rfl, rfl⟩)
  · exact h.elim
set_option maxRecDepth 20000 in
set_option maxHeartbeats 4000000 in
theorem c_X4_count {l : Launch} : ab_ctr l yX4_count cX4_count 1 (some .int) 0 0 s_X4_count := by
  refine ab_met x_X4_count (by decide) rfl fo_X4 ko_X4 so_X4 rfl ab_cs_nil ?_ ?_
  · intro as M Po h
    unfold s_X4_count at h
    split at h
    · simp [ab_e0]
    · exact h.elim
  · intro as M Po h G hG
    unfold s_X4_count at h
    split at h
    · refine ab_go hG [] 60 _ _ _ _ ?_
      simp only [ab_en, ab_e0, List.length_cons, List.length_nil, Nat.reduceAdd, Nat.reduceSub, List.replicate, List.cons_append, List.nil_append]
      simp (decide := true) only [ew_n, ew_0, Option.toList_some, Option.toList_none, List.cons_append, List.nil_append, true_and, and_true, List.length_cons, List.length_nil, Nat.reduceAdd, Nat.reduceLeDiff, Int32.reduceAdd, Int32.reduceSub, Int32.reduceMul, Int32.reduceLT, Int32.reduceLE, Int32.reduceToNatClampNeg, ↓reduceIte, and_self, si_1, si_2, sl_1, sl_2, false_and, and_false, dX4_count_0, dX4_count_1, dX4_count_4, e_aload_n0, e_getfield, e_ireturn, gf_X4_24_3, ab_rn, bi_0, bi_1, ite_not]
      exact h
    · exact h.elim

def s_X4_end : ab_Sem := fun as M Po => match as with
  | [.ref 3] => Po (some (.int (M.1 3 5))) M
  | _ => False
theorem q_X4_end {M : ab_M} {Po : ab_P} : s_X4_end [.ref 3] M Po = (Po (some (.int (M.1 3 5))) M) := rfl
abbrev x_X4_end : ab_X := (some .int, fl_X4, [], kl_X4, gs_X4, ab_ros)
theorem r_X4_end : ∀ (as : List Value) (M : ab_M) (Po : ab_P), s_X4_end as M Po → ∃ (q : Nat) (as' : List Value) (ci : Nat) (T : u_T) (N : Nat) (fs : List ab_F), as = .ref q :: as' ∧ ab_sh[q]? = some (.inl (ci, fs)) ∧ vwCl[ci]? = some (yX4_end.cls, T, N) := by
  intro as M Po h
  unfold s_X4_end at h
  split at h
  · first | exact ⟨_, _, 4, _, _, _, rfl, rfl, rfl⟩ | (rcases h.1 with rfl | rfl | rfl <;> exact ⟨_, _, 4, _, _, _, rfl, rfl, rfl⟩)
  · exact h.elim
set_option maxRecDepth 20000 in
set_option maxHeartbeats 4000000 in
theorem c_X4_end {l : Launch} : ab_ctr l yX4_end cX4_end 1 (some .int) 0 0 s_X4_end := by
  refine ab_met x_X4_end (by decide) rfl fo_X4 ko_X4 so_X4 rfl ab_cs_nil ?_ ?_
  · intro as M Po h
    unfold s_X4_end at h
    split at h
    · simp [ab_e0]
    · exact h.elim
  · intro as M Po h G hG
    unfold s_X4_end at h
    split at h
    · refine ab_go hG [] 60 _ _ _ _ ?_
      simp only [ab_en, ab_e0, List.length_cons, List.length_nil, Nat.reduceAdd, Nat.reduceSub, List.replicate, List.cons_append, List.nil_append]
      simp (decide := true) only [ew_n, ew_0, Option.toList_some, Option.toList_none, List.cons_append, List.nil_append, true_and, and_true, List.length_cons, List.length_nil, Nat.reduceAdd, Nat.reduceLeDiff, Int32.reduceAdd, Int32.reduceSub, Int32.reduceMul, Int32.reduceLT, Int32.reduceLE, Int32.reduceToNatClampNeg, ↓reduceIte, and_self, si_1, si_2, sl_1, sl_2, false_and, and_false, dX4_end_0, dX4_end_1, dX4_end_4, e_aload_n0, e_getfield, e_ireturn, gf_X4_28_3, ab_rn, bi_0, bi_1, ite_not]
      exact h
    · exact h.elim

def s_X4_empty : ab_Sem := fun as M Po => match as with
  | [.ref 3] => Po none (ab_si (ab_si M 3 4 0) 3 5 0)
  | _ => False
theorem q_X4_empty {M : ab_M} {Po : ab_P} : s_X4_empty [.ref 3] M Po = (Po none (ab_si (ab_si M 3 4 0) 3 5 0)) := rfl
abbrev x_X4_empty : ab_X := (none, fl_X4, [], kl_X4, gs_X4, ab_ros)
theorem r_X4_empty : ∀ (as : List Value) (M : ab_M) (Po : ab_P), s_X4_empty as M Po → ∃ (q : Nat) (as' : List Value) (ci : Nat) (T : u_T) (N : Nat) (fs : List ab_F), as = .ref q :: as' ∧ ab_sh[q]? = some (.inl (ci, fs)) ∧ vwCl[ci]? = some (yX4_empty.cls, T, N) := by
  intro as M Po h
  unfold s_X4_empty at h
  split at h
  · first | exact ⟨_, _, 4, _, _, _, rfl, rfl, rfl⟩ | (rcases h.1 with rfl | rfl | rfl <;> exact ⟨_, _, 4, _, _, _, rfl, rfl, rfl⟩)
  · exact h.elim
set_option maxRecDepth 20000 in
set_option maxHeartbeats 4000000 in
theorem c_X4_empty {l : Launch} : ab_ctr l yX4_empty cX4_empty 1 none 0 0 s_X4_empty := by
  refine ab_met x_X4_empty (by decide) rfl fo_X4 ko_X4 so_X4 rfl ab_cs_nil ?_ ?_
  · intro as M Po h
    unfold s_X4_empty at h
    split at h
    · simp [ab_e0]
    · exact h.elim
  · intro as M Po h G hG
    unfold s_X4_empty at h
    split at h
    · refine ab_go hG [] 60 _ _ _ _ ?_
      simp only [ab_en, ab_e0, List.length_cons, List.length_nil, Nat.reduceAdd, Nat.reduceSub, List.replicate, List.cons_append, List.nil_append]
      simp (decide := true) only [ew_n, ew_0, Option.toList_some, Option.toList_none, List.cons_append, List.nil_append, true_and, and_true, List.length_cons, List.length_nil, Nat.reduceAdd, Nat.reduceLeDiff, Int32.reduceAdd, Int32.reduceSub, Int32.reduceMul, Int32.reduceLT, Int32.reduceLE, Int32.reduceToNatClampNeg, ↓reduceIte, and_self, si_1, si_2, sl_1, sl_2, false_and, and_false, dX4_empty_0, dX4_empty_1, dX4_empty_2, dX4_empty_5, dX4_empty_6, dX4_empty_7, dX4_empty_10, e_aload_n0, e_putfield, e_return, j_ic_0, pf_X4_24_3, pf_X4_28_3, ab_rn, bi_0, bi_1, ite_not]
      exact h
    · exact h.elim

def s_X4_has : ab_Sem := fun as M Po => match as with
  | [.ref 3, .int x] => Po (some (.int (if ¬ x < 0 ∧ x < M.1 3 4 ∧ x < 8 then 1 else 0))) M
  | _ => False
theorem q_X4_has {x : Int32} {M : ab_M} {Po : ab_P} : s_X4_has [.ref 3, .int x] M Po = (Po (some (.int (if ¬ x < 0 ∧ x < M.1 3 4 ∧ x < 8 then 1 else 0))) M) := rfl
abbrev x_X4_has : ab_X := (some .boolean, fl_X4, [], kl_X4, gs_X4, ab_ros)
theorem r_X4_has : ∀ (as : List Value) (M : ab_M) (Po : ab_P), s_X4_has as M Po → ∃ (q : Nat) (as' : List Value) (ci : Nat) (T : u_T) (N : Nat) (fs : List ab_F), as = .ref q :: as' ∧ ab_sh[q]? = some (.inl (ci, fs)) ∧ vwCl[ci]? = some (yX4_has.cls, T, N) := by
  intro as M Po h
  unfold s_X4_has at h
  split at h
  · first | exact ⟨_, _, 4, _, _, _, rfl, rfl, rfl⟩ | (rcases h.1 with rfl | rfl | rfl <;> exact ⟨_, _, 4, _, _, _, rfl, rfl, rfl⟩)
  · exact h.elim
set_option maxRecDepth 20000 in
set_option maxHeartbeats 4000000 in
theorem c_X4_has {l : Launch} : ab_ctr l yX4_has cX4_has 2 (some .boolean) 0 0 s_X4_has := by
  refine ab_met x_X4_has (by decide) rfl fo_X4 ko_X4 so_X4 rfl ab_cs_nil ?_ ?_
  · intro as M Po h
    unfold s_X4_has at h
    split at h
    · simp [ab_e0]
    · exact h.elim
  · intro as M Po h G hG
    unfold s_X4_has at h
    split at h
    · refine ab_go hG [] 60 _ _ _ _ ?_
      simp only [ab_en, ab_e0, List.length_cons, List.length_nil, Nat.reduceAdd, Nat.reduceSub, List.replicate, List.cons_append, List.nil_append]
      simp (decide := true) only [ew_n, ew_0, Option.toList_some, Option.toList_none, List.cons_append, List.nil_append, true_and, and_true, List.length_cons, List.length_nil, Nat.reduceAdd, Nat.reduceLeDiff, Int32.reduceAdd, Int32.reduceSub, Int32.reduceMul, Int32.reduceLT, Int32.reduceLE, Int32.reduceToNatClampNeg, ↓reduceIte, and_self, si_1, si_2, sl_1, sl_2, false_and, and_false, dX4_has_0, dX4_has_1, dX4_has_4, dX4_has_5, dX4_has_6, dX4_has_9, dX4_has_12, dX4_has_13, dX4_has_15, dX4_has_18, dX4_has_19, dX4_has_22, dX4_has_23, e_aload_n0, e_getfield, e_iload_n1, e_ireturn, gf_X4_24_3, j_bp_8, j_goto_19_4, j_ic_0, j_ic_1, j_icmp_ge_15_7, j_icmp_ge_9_13, j_if_lt_1_21, ab_rn, bi_0, bi_1, ite_not]
      (repeat' split) <;> (try simp (decide := true) only [i0_le, *, not_false_eq_true, not_true_eq_false, and_self, true_and, and_true, or_false, false_or, or_true, true_or, false_and, and_false, not_and, ↓reduceIte] at h) <;> (try simp (decide := true) only [i0_le, *, not_false_eq_true, not_true_eq_false, and_self, true_and, and_true, or_false, false_or, or_true, true_or, false_and, and_false, not_and, ↓reduceIte]) <;> first | done | exact h | (exfalso; simp_all (decide := true) only [not_true_eq_false, not_false_eq_true, false_and, and_false, true_and, and_true]; done)
    · exact h.elim

def s_X4_milesOf : ab_Sem := fun as M Po => match as with
  | [.ref 3, .int x] => Po (some (.int (if ¬ x < 0 ∧ x < M.1 3 4 ∧ x < 8 then M.1 4 x.toNatClampNeg else 0))) M
  | _ => False
theorem q_X4_milesOf {x : Int32} {M : ab_M} {Po : ab_P} : s_X4_milesOf [.ref 3, .int x] M Po = (Po (some (.int (if ¬ x < 0 ∧ x < M.1 3 4 ∧ x < 8 then M.1 4 x.toNatClampNeg else 0))) M) := rfl
abbrev x_X4_milesOf : ab_X := (some .int, fl_X4, [(62, 2, s_X4_has)], kl_X4, gs_X4, ab_ros)
theorem ca_X4_milesOf_31 {v0 v1 : Value} {st : List Value} {M : ab_M} {k : List Value → ab_M → Prop} : ab_ca x_X4_milesOf (2 * 31) (v1 :: v0 :: st) M k = (st.length ≤ 4 ∧ s_X4_has [v0, v1] M (fun r M' => k (r.toList ++ st) M')) := rfl
theorem r_X4_milesOf : ∀ (as : List Value) (M : ab_M) (Po : ab_P), s_X4_milesOf as M Po → ∃ (q : Nat) (as' : List Value) (ci : Nat) (T : u_T) (N : Nat) (fs : List ab_F), as = .ref q :: as' ∧ ab_sh[q]? = some (.inl (ci, fs)) ∧ vwCl[ci]? = some (yX4_milesOf.cls, T, N) := by
  intro as M Po h
  unfold s_X4_milesOf at h
  split at h
  · first | exact ⟨_, _, 4, _, _, _, rfl, rfl, rfl⟩ | (rcases h.1 with rfl | rfl | rfl <;> exact ⟨_, _, 4, _, _, _, rfl, rfl, rfl⟩)
  · exact h.elim
set_option maxRecDepth 20000 in
set_option maxHeartbeats 4000000 in
theorem c_X4_milesOf {l : Launch} : ab_ctr l yX4_milesOf cX4_milesOf 2 (some .int) 1 21 s_X4_milesOf := by
  refine ab_met x_X4_milesOf (by decide) rfl fo_X4 ko_X4 so_X4 rfl (ab_cs_cons (ab_kV c_X4_has ml_X4_31 v_X4_has ⟨rfl, rfl⟩ r_X4_has) ab_cs_nil) ?_ ?_
  · intro as M Po h
    unfold s_X4_milesOf at h
    split at h
    · simp [ab_e0]
    · exact h.elim
  · intro as M Po h G hG
    unfold s_X4_milesOf at h
    split at h
    · refine ab_go hG [] 60 _ _ _ _ ?_
      simp only [ab_en, ab_e0, List.length_cons, List.length_nil, Nat.reduceAdd, Nat.reduceSub, List.replicate, List.cons_append, List.nil_append]
      simp (decide := true) only [ew_n, ew_0, Option.toList_some, Option.toList_none, List.cons_append, List.nil_append, true_and, and_true, List.length_cons, List.length_nil, Nat.reduceAdd, Nat.reduceLeDiff, Int32.reduceAdd, Int32.reduceSub, Int32.reduceMul, Int32.reduceLT, Int32.reduceLE, Int32.reduceToNatClampNeg, ↓reduceIte, and_self, si_1, si_2, sl_1, sl_2, false_and, and_false, dX4_milesOf_0, dX4_milesOf_1, dX4_milesOf_2, dX4_milesOf_5, dX4_milesOf_8, dX4_milesOf_9, dX4_milesOf_12, dX4_milesOf_13, dX4_milesOf_14, dX4_milesOf_17, dX4_milesOf_18, ca_X4_milesOf_31, e_aload_n0, e_callv, e_getfield, e_iaload, e_iload_n1, e_ireturn, ea_4, gf_X4_9_3, j_goto_14_4, j_ic_0, j_if_eq_5_12, q_X4_has, ab_rn, bi_0, bi_1, ite_not]
      (repeat' split) <;> (try simp (decide := true) only [i0_le, *, not_false_eq_true, not_true_eq_false, and_self, true_and, and_true, or_false, false_or, or_true, true_or, false_and, and_false, not_and, ↓reduceIte] at h) <;> (try simp (decide := true) only [i0_le, *, not_false_eq_true, not_true_eq_false, and_self, true_and, and_true, or_false, false_or, or_true, true_or, false_and, and_false, not_and, ↓reduceIte]) <;> first | done | exact h | (exfalso; simp_all (decide := true) only [not_true_eq_false, not_false_eq_true, false_and, and_false, true_and, and_true]; done)
    · exact h.elim

def s_X4_groundOf : ab_Sem := fun as M Po => match as with
  | [.ref 3, .int x] => Po (some (.int (go_X M x))) M
  | _ => False
theorem q_X4_groundOf {x : Int32} {M : ab_M} {Po : ab_P} : s_X4_groundOf [.ref 3, .int x] M Po = (Po (some (.int (go_X M x))) M) := rfl
abbrev x_X4_groundOf : ab_X := (some .int, fl_X4, [], kl_X4, gs_X4, ab_ros)
theorem r_X4_groundOf : ∀ (as : List Value) (M : ab_M) (Po : ab_P), s_X4_groundOf as M Po → ∃ (q : Nat) (as' : List Value) (ci : Nat) (T : u_T) (N : Nat) (fs : List ab_F), as = .ref q :: as' ∧ ab_sh[q]? = some (.inl (ci, fs)) ∧ vwCl[ci]? = some (yX4_groundOf.cls, T, N) := by
  intro as M Po h
  unfold s_X4_groundOf at h
  split at h
  · first | exact ⟨_, _, 4, _, _, _, rfl, rfl, rfl⟩ | (rcases h.1 with rfl | rfl | rfl <;> exact ⟨_, _, 4, _, _, _, rfl, rfl, rfl⟩)
  · exact h.elim
set_option maxRecDepth 20000 in
set_option maxHeartbeats 4000000 in
theorem c_X4_groundOf {l : Launch} : ab_ctr l yX4_groundOf cX4_groundOf 2 (some .int) 0 0 s_X4_groundOf := by
  refine ab_met x_X4_groundOf (by decide) rfl fo_X4 ko_X4 so_X4 rfl ab_cs_nil ?_ ?_
  · intro as M Po h
    unfold s_X4_groundOf at h
    split at h
    · simp [ab_e0]
    · exact h.elim
  · intro as M Po h G hG
    unfold s_X4_groundOf at h
    split at h
    · refine ab_go hG [] 60 _ _ _ _ ?_
      simp only [ab_en, ab_e0, List.length_cons, List.length_nil, Nat.reduceAdd, Nat.reduceSub, List.replicate, List.cons_append, List.nil_append]
      simp (decide := true) only [ew_n, ew_0, Option.toList_some, Option.toList_none, List.cons_append, List.nil_append, true_and, and_true, List.length_cons, List.length_nil, Nat.reduceAdd, Nat.reduceLeDiff, Int32.reduceAdd, Int32.reduceSub, Int32.reduceMul, Int32.reduceLT, Int32.reduceLE, Int32.reduceToNatClampNeg, ↓reduceIte, and_self, si_1, si_2, sl_1, sl_2, false_and, and_false, dX4_groundOf_0, dX4_groundOf_1, dX4_groundOf_4, dX4_groundOf_5, dX4_groundOf_6, dX4_groundOf_9, dX4_groundOf_12, dX4_groundOf_13, dX4_groundOf_14, dX4_groundOf_17, dX4_groundOf_18, dX4_groundOf_21, dX4_groundOf_22, dX4_groundOf_25, dX4_groundOf_26, dX4_groundOf_27, dX4_groundOf_30, dX4_groundOf_32, e_alen, e_aload_n0, e_getfield, e_iaload, e_iload_n1, e_ireturn, ea_5, el_5, gf_X4_15_3, gf_X4_24_3, j_bp_m9, j_goto_27_5, j_icmp_ge_18_12, j_icmp_ge_9_21, j_if_lt_1_29, ab_rn, bi_0, bi_1, ite_not]
      (repeat' split) <;> (try simp (decide := true) only [go_X, i0_le, *, not_false_eq_true, not_true_eq_false, and_self, true_and, and_true, or_false, false_or, or_true, true_or, false_and, and_false, not_and, ↓reduceIte] at h) <;> (try simp (decide := true) only [i0_le, *, not_false_eq_true, not_true_eq_false, and_self, true_and, and_true, or_false, false_or, or_true, true_or, false_and, and_false, not_and, ↓reduceIte]) <;> first | done | exact h | (exfalso; simp_all (decide := true) only [not_true_eq_false, not_false_eq_true, false_and, and_false, true_and, and_true]; done)
    · exact h.elim

def s_X4_beginOf : ab_Sem := fun as M Po => match as with
  | [.ref 3, .int x] => Po (some (.int (if ¬ x < 0 ∧ x < M.1 3 4 ∧ x < 8 then M.1 6 x.toNatClampNeg else 0))) M
  | _ => False
theorem q_X4_beginOf {x : Int32} {M : ab_M} {Po : ab_P} : s_X4_beginOf [.ref 3, .int x] M Po = (Po (some (.int (if ¬ x < 0 ∧ x < M.1 3 4 ∧ x < 8 then M.1 6 x.toNatClampNeg else 0))) M) := rfl
abbrev x_X4_beginOf : ab_X := (some .int, fl_X4, [(62, 2, s_X4_has)], kl_X4, gs_X4, ab_ros)
theorem ca_X4_beginOf_31 {v0 v1 : Value} {st : List Value} {M : ab_M} {k : List Value → ab_M → Prop} : ab_ca x_X4_beginOf (2 * 31) (v1 :: v0 :: st) M k = (st.length ≤ 4 ∧ s_X4_has [v0, v1] M (fun r M' => k (r.toList ++ st) M')) := rfl
theorem r_X4_beginOf : ∀ (as : List Value) (M : ab_M) (Po : ab_P), s_X4_beginOf as M Po → ∃ (q : Nat) (as' : List Value) (ci : Nat) (T : u_T) (N : Nat) (fs : List ab_F), as = .ref q :: as' ∧ ab_sh[q]? = some (.inl (ci, fs)) ∧ vwCl[ci]? = some (yX4_beginOf.cls, T, N) := by
  intro as M Po h
  unfold s_X4_beginOf at h
  split at h
  · first | exact ⟨_, _, 4, _, _, _, rfl, rfl, rfl⟩ | (rcases h.1 with rfl | rfl | rfl <;> exact ⟨_, _, 4, _, _, _, rfl, rfl, rfl⟩)
  · exact h.elim
set_option maxRecDepth 20000 in
set_option maxHeartbeats 4000000 in
theorem c_X4_beginOf {l : Launch} : ab_ctr l yX4_beginOf cX4_beginOf 2 (some .int) 1 21 s_X4_beginOf := by
  refine ab_met x_X4_beginOf (by decide) rfl fo_X4 ko_X4 so_X4 rfl (ab_cs_cons (ab_kV c_X4_has ml_X4_31 v_X4_has ⟨rfl, rfl⟩ r_X4_has) ab_cs_nil) ?_ ?_
  · intro as M Po h
    unfold s_X4_beginOf at h
    split at h
    · simp [ab_e0]
    · exact h.elim
  · intro as M Po h G hG
    unfold s_X4_beginOf at h
    split at h
    · refine ab_go hG [] 60 _ _ _ _ ?_
      simp only [ab_en, ab_e0, List.length_cons, List.length_nil, Nat.reduceAdd, Nat.reduceSub, List.replicate, List.cons_append, List.nil_append]
      simp (decide := true) only [ew_n, ew_0, Option.toList_some, Option.toList_none, List.cons_append, List.nil_append, true_and, and_true, List.length_cons, List.length_nil, Nat.reduceAdd, Nat.reduceLeDiff, Int32.reduceAdd, Int32.reduceSub, Int32.reduceMul, Int32.reduceLT, Int32.reduceLE, Int32.reduceToNatClampNeg, ↓reduceIte, and_self, si_1, si_2, sl_1, sl_2, false_and, and_false, dX4_beginOf_0, dX4_beginOf_1, dX4_beginOf_2, dX4_beginOf_5, dX4_beginOf_8, dX4_beginOf_9, dX4_beginOf_12, dX4_beginOf_13, dX4_beginOf_14, dX4_beginOf_17, dX4_beginOf_18, ca_X4_beginOf_31, e_aload_n0, e_callv, e_getfield, e_iaload, e_iload_n1, e_ireturn, ea_6, gf_X4_18_3, j_goto_14_4, j_ic_0, j_if_eq_5_12, q_X4_has, ab_rn, bi_0, bi_1, ite_not]
      (repeat' split) <;> (try simp (decide := true) only [i0_le, *, not_false_eq_true, not_true_eq_false, and_self, true_and, and_true, or_false, false_or, or_true, true_or, false_and, and_false, not_and, ↓reduceIte] at h) <;> (try simp (decide := true) only [i0_le, *, not_false_eq_true, not_true_eq_false, and_self, true_and, and_true, or_false, false_or, or_true, true_or, false_and, and_false, not_and, ↓reduceIte]) <;> first | done | exact h | (exfalso; simp_all (decide := true) only [not_true_eq_false, not_false_eq_true, false_and, and_false, true_and, and_true]; done)
    · exact h.elim

def s_X4_stretchAt : ab_Sem := fun as M Po => match as with
  | [.ref 3, .int x] => Po (some (.int (sa_X M x))) M
  | _ => False
theorem q_X4_stretchAt {x : Int32} {M : ab_M} {Po : ab_P} : s_X4_stretchAt [.ref 3, .int x] M Po = (Po (some (.int (sa_X M x))) M) := rfl
abbrev x_X4_stretchAt : ab_X := (some .int, fl_X4, [], kl_X4, gs_X4, ab_ros)
theorem r_X4_stretchAt : ∀ (as : List Value) (M : ab_M) (Po : ab_P), s_X4_stretchAt as M Po → ∃ (q : Nat) (as' : List Value) (ci : Nat) (T : u_T) (N : Nat) (fs : List ab_F), as = .ref q :: as' ∧ ab_sh[q]? = some (.inl (ci, fs)) ∧ vwCl[ci]? = some (yX4_stretchAt.cls, T, N) := by
  intro as M Po h
  unfold s_X4_stretchAt at h
  split at h
  · first | exact ⟨_, _, 4, _, _, _, rfl, rfl, rfl⟩ | (rcases h.1 with rfl | rfl | rfl <;> exact ⟨_, _, 4, _, _, _, rfl, rfl, rfl⟩)
  · exact h.elim
set_option maxRecDepth 20000 in
set_option maxHeartbeats 4000000 in
theorem c_X4_stretchAt {l : Launch} : ab_ctr l yX4_stretchAt cX4_stretchAt 2 (some .int) 0 0 s_X4_stretchAt := by
  refine ab_met x_X4_stretchAt (by decide) rfl fo_X4 ko_X4 so_X4 rfl ab_cs_nil ?_ ?_
  · intro as M Po h
    unfold s_X4_stretchAt at h
    split at h
    · simp [ab_e0]
    · exact h.elim
  · intro as M Po h G hG
    unfold s_X4_stretchAt at h
    split at h
    · refine ab_go hG [] 60 _ _ _ _ ?_
      simp only [ab_en, ab_e0, List.length_cons, List.length_nil, Nat.reduceAdd, Nat.reduceSub, List.replicate, List.cons_append, List.nil_append]
      simp (decide := true) only [ew_n, ew_0, Option.toList_some, Option.toList_none, List.cons_append, List.nil_append, true_and, and_true, List.length_cons, List.length_nil, Nat.reduceAdd, Nat.reduceLeDiff, Int32.reduceAdd, Int32.reduceSub, Int32.reduceMul, Int32.reduceLT, Int32.reduceLE, Int32.reduceToNatClampNeg, ↓reduceIte, and_self, si_1, si_2, sl_1, sl_2, false_and, and_false, dX4_stretchAt_0, dX4_stretchAt_1, dX4_stretchAt_4, dX4_stretchAt_5, dX4_stretchAt_6, dX4_stretchAt_9, dX4_stretchAt_12, dX4_stretchAt_13, dX4_stretchAt_14, dX4_stretchAt_17, dX4_stretchAt_18, dX4_stretchAt_21, dX4_stretchAt_22, dX4_stretchAt_25, dX4_stretchAt_26, dX4_stretchAt_27, dX4_stretchAt_30, dX4_stretchAt_32, e_alen, e_aload_n0, e_getfield, e_iaload, e_iload_n1, e_ireturn, ea_7, el_7, gf_X4_21_3, gf_X4_28_3, j_bp_m9, j_goto_27_5, j_icmp_ge_18_12, j_icmp_ge_9_21, j_if_lt_1_29, ab_rn, bi_0, bi_1, ite_not]
      (repeat' split) <;> (try simp (decide := true) only [sa_X, i0_le, *, not_false_eq_true, not_true_eq_false, and_self, true_and, and_true, or_false, false_or, or_true, true_or, false_and, and_false, not_and, ↓reduceIte] at h) <;> (try simp (decide := true) only [i0_le, *, not_false_eq_true, not_true_eq_false, and_self, true_and, and_true, or_false, false_or, or_true, true_or, false_and, and_false, not_and, ↓reduceIte]) <;> first | done | exact h | (exfalso; simp_all (decide := true) only [not_true_eq_false, not_false_eq_true, false_and, and_false, true_and, and_true]; done)
    · exact h.elim

def s_X5_size : ab_Sem := fun as M Po => match as with
  | [.ref 1] => Po (some (.int (M.1 1 1))) M
  | _ => False
theorem q_X5_size {M : ab_M} {Po : ab_P} : s_X5_size [.ref 1] M Po = (Po (some (.int (M.1 1 1))) M) := rfl
abbrev x_X5_size : ab_X := (some .int, fl_X5, [], kl_X5, gs_X5, ab_ros)
theorem r_X5_size : ∀ (as : List Value) (M : ab_M) (Po : ab_P), s_X5_size as M Po → ∃ (q : Nat) (as' : List Value) (ci : Nat) (T : u_T) (N : Nat) (fs : List ab_F), as = .ref q :: as' ∧ ab_sh[q]? = some (.inl (ci, fs)) ∧ vwCl[ci]? = some (yX5_size.cls, T, N) := by
  intro as M Po h
  unfold s_X5_size at h
  split at h
  · first | exact ⟨_, _, 5, _, _, _, rfl, rfl, rfl⟩ | (rcases h.1 with rfl | rfl | rfl <;> exact ⟨_, _, 5, _, _, _, rfl, rfl, rfl⟩)
  · exact h.elim
set_option maxRecDepth 20000 in
set_option maxHeartbeats 4000000 in
theorem c_X5_size {l : Launch} : ab_ctr l yX5_size cX5_size 1 (some .int) 0 0 s_X5_size := by
  refine ab_met x_X5_size (by decide) rfl fo_X5 ko_X5 so_X5 rfl ab_cs_nil ?_ ?_
  · intro as M Po h
    unfold s_X5_size at h
    split at h
    · simp [ab_e0]
    · exact h.elim
  · intro as M Po h G hG
    unfold s_X5_size at h
    split at h
    · refine ab_go hG [] 60 _ _ _ _ ?_
      simp only [ab_en, ab_e0, List.length_cons, List.length_nil, Nat.reduceAdd, Nat.reduceSub, List.replicate, List.cons_append, List.nil_append]
      simp (decide := true) only [ew_n, ew_0, Option.toList_some, Option.toList_none, List.cons_append, List.nil_append, true_and, and_true, List.length_cons, List.length_nil, Nat.reduceAdd, Nat.reduceLeDiff, Int32.reduceAdd, Int32.reduceSub, Int32.reduceMul, Int32.reduceLT, Int32.reduceLE, Int32.reduceToNatClampNeg, ↓reduceIte, and_self, si_1, si_2, sl_1, sl_2, false_and, and_false, dX5_size_0, dX5_size_1, dX5_size_4, e_aload_n0, e_getfield, e_ireturn, gf_X5_15_1, ab_rn, bi_0, bi_1, ite_not]
      exact h
    · exact h.elim

def s_X5_empty : ab_Sem := fun as M Po => match as with
  | [.ref 1] => Po none (ab_si M 1 1 0)
  | _ => False
theorem q_X5_empty {M : ab_M} {Po : ab_P} : s_X5_empty [.ref 1] M Po = (Po none (ab_si M 1 1 0)) := rfl
abbrev x_X5_empty : ab_X := (none, fl_X5, [], kl_X5, gs_X5, ab_ros)
theorem r_X5_empty : ∀ (as : List Value) (M : ab_M) (Po : ab_P), s_X5_empty as M Po → ∃ (q : Nat) (as' : List Value) (ci : Nat) (T : u_T) (N : Nat) (fs : List ab_F), as = .ref q :: as' ∧ ab_sh[q]? = some (.inl (ci, fs)) ∧ vwCl[ci]? = some (yX5_empty.cls, T, N) := by
  intro as M Po h
  unfold s_X5_empty at h
  split at h
  · first | exact ⟨_, _, 5, _, _, _, rfl, rfl, rfl⟩ | (rcases h.1 with rfl | rfl | rfl <;> exact ⟨_, _, 5, _, _, _, rfl, rfl, rfl⟩)
  · exact h.elim
set_option maxRecDepth 20000 in
set_option maxHeartbeats 4000000 in
theorem c_X5_empty {l : Launch} : ab_ctr l yX5_empty cX5_empty 1 none 0 0 s_X5_empty := by
  refine ab_met x_X5_empty (by decide) rfl fo_X5 ko_X5 so_X5 rfl ab_cs_nil ?_ ?_
  · intro as M Po h
    unfold s_X5_empty at h
    split at h
    · simp [ab_e0]
    · exact h.elim
  · intro as M Po h G hG
    unfold s_X5_empty at h
    split at h
    · refine ab_go hG [] 60 _ _ _ _ ?_
      simp only [ab_en, ab_e0, List.length_cons, List.length_nil, Nat.reduceAdd, Nat.reduceSub, List.replicate, List.cons_append, List.nil_append]
      simp (decide := true) only [ew_n, ew_0, Option.toList_some, Option.toList_none, List.cons_append, List.nil_append, true_and, and_true, List.length_cons, List.length_nil, Nat.reduceAdd, Nat.reduceLeDiff, Int32.reduceAdd, Int32.reduceSub, Int32.reduceMul, Int32.reduceLT, Int32.reduceLE, Int32.reduceToNatClampNeg, ↓reduceIte, and_self, si_1, si_2, sl_1, sl_2, false_and, and_false, dX5_empty_0, dX5_empty_1, dX5_empty_2, dX5_empty_5, e_aload_n0, e_putfield, e_return, j_ic_0, pf_X5_15_1, ab_rn, bi_0, bi_1, ite_not]
      exact h
    · exact h.elim

def s_X5_append : ab_Sem := fun as M Po => match as with
  | [.ref 1, .int x] => Po none (if M.1 1 1 < 0 then M else if M.1 1 1 < 48 then ab_si (ab_si M 2 (M.1 1 1).toNatClampNeg x) 1 1 (M.1 1 1 + 1) else M)
  | _ => False
theorem q_X5_append {x : Int32} {M : ab_M} {Po : ab_P} : s_X5_append [.ref 1, .int x] M Po = (Po none (if M.1 1 1 < 0 then M else if M.1 1 1 < 48 then ab_si (ab_si M 2 (M.1 1 1).toNatClampNeg x) 1 1 (M.1 1 1 + 1) else M)) := rfl
abbrev x_X5_append : ab_X := (none, fl_X5, [], kl_X5, gs_X5, ab_ros)
theorem r_X5_append : ∀ (as : List Value) (M : ab_M) (Po : ab_P), s_X5_append as M Po → ∃ (q : Nat) (as' : List Value) (ci : Nat) (T : u_T) (N : Nat) (fs : List ab_F), as = .ref q :: as' ∧ ab_sh[q]? = some (.inl (ci, fs)) ∧ vwCl[ci]? = some (yX5_append.cls, T, N) := by
  intro as M Po h
  unfold s_X5_append at h
  split at h
  · first | exact ⟨_, _, 5, _, _, _, rfl, rfl, rfl⟩ | (rcases h.1 with rfl | rfl | rfl <;> exact ⟨_, _, 5, _, _, _, rfl, rfl, rfl⟩)
  · exact h.elim
set_option maxRecDepth 20000 in
set_option maxHeartbeats 4000000 in
theorem c_X5_append {l : Launch} : ab_ctr l yX5_append cX5_append 2 none 0 0 s_X5_append := by
  refine ab_met x_X5_append (by decide) rfl fo_X5 ko_X5 so_X5 rfl ab_cs_nil ?_ ?_
  · intro as M Po h
    unfold s_X5_append at h
    split at h
    · simp [ab_e0]
    · exact h.elim
  · intro as M Po h G hG
    unfold s_X5_append at h
    split at h
    · refine ab_go hG [] 60 _ _ _ _ ?_
      simp only [ab_en, ab_e0, List.length_cons, List.length_nil, Nat.reduceAdd, Nat.reduceSub, List.replicate, List.cons_append, List.nil_append]
      simp (decide := true) only [ew_n, ew_0, Option.toList_some, Option.toList_none, List.cons_append, List.nil_append, true_and, and_true, List.length_cons, List.length_nil, Nat.reduceAdd, Nat.reduceLeDiff, Int32.reduceAdd, Int32.reduceSub, Int32.reduceMul, Int32.reduceLT, Int32.reduceLE, Int32.reduceToNatClampNeg, ↓reduceIte, and_self, si_1, si_2, sl_1, sl_2, false_and, and_false, dX5_append_0, dX5_append_1, dX5_append_4, dX5_append_7, dX5_append_8, dX5_append_11, dX5_append_12, dX5_append_15, dX5_append_16, dX5_append_19, dX5_append_20, dX5_append_23, dX5_append_24, dX5_append_27, dX5_append_28, dX5_append_29, dX5_append_30, dX5_append_31, dX5_append_34, dX5_append_35, dX5_append_36, dX5_append_39, e_alen, e_aload_n0, e_dupi, e_dupr, e_getfield, e_iadd, e_iastore, e_iload_n1, e_putfield, e_return, el_2, es_2, gf_X5_15_1, gf_X5_9_1, j_ic_1, j_icmp_ge_16_23, j_if_lt_4_35, pf_X5_15_1, ab_rn, bi_0, bi_1, ite_not]
      (repeat' split) <;> (try simp (decide := true) only [i0_le, *, not_false_eq_true, not_true_eq_false, and_self, true_and, and_true, or_false, false_or, or_true, true_or, false_and, and_false, not_and, ↓reduceIte] at h) <;> (try simp (decide := true) only [i0_le, *, not_false_eq_true, not_true_eq_false, and_self, true_and, and_true, or_false, false_or, or_true, true_or, false_and, and_false, not_and, ↓reduceIte]) <;> first | done | exact h | (exfalso; simp_all (decide := true) only [not_true_eq_false, not_false_eq_true, false_and, and_false, true_and, and_true]; done)
    · exact h.elim

def la_X (M : ab_M) (x : Int32) : Int32 := if ¬ x < 0 ∧ x < M.1 1 1 ∧ x < 48 then M.1 2 x.toNatClampNeg else (-1)
def s_X5_letterAt : ab_Sem := fun as M Po => match as with
  | [.ref 1, .int x] => Po (some (.int (la_X M x))) M
  | _ => False
theorem q_X5_letterAt {x : Int32} {M : ab_M} {Po : ab_P} : s_X5_letterAt [.ref 1, .int x] M Po = (Po (some (.int (la_X M x))) M) := rfl
abbrev x_X5_letterAt : ab_X := (some .int, fl_X5, [], kl_X5, gs_X5, ab_ros)
theorem r_X5_letterAt : ∀ (as : List Value) (M : ab_M) (Po : ab_P), s_X5_letterAt as M Po → ∃ (q : Nat) (as' : List Value) (ci : Nat) (T : u_T) (N : Nat) (fs : List ab_F), as = .ref q :: as' ∧ ab_sh[q]? = some (.inl (ci, fs)) ∧ vwCl[ci]? = some (yX5_letterAt.cls, T, N) := by
  intro as M Po h
  unfold s_X5_letterAt at h
  split at h
  · first | exact ⟨_, _, 5, _, _, _, rfl, rfl, rfl⟩ | (rcases h.1 with rfl | rfl | rfl <;> exact ⟨_, _, 5, _, _, _, rfl, rfl, rfl⟩)
  · exact h.elim
set_option maxRecDepth 20000 in
set_option maxHeartbeats 4000000 in
theorem c_X5_letterAt {l : Launch} : ab_ctr l yX5_letterAt cX5_letterAt 2 (some .int) 0 0 s_X5_letterAt := by
  refine ab_met x_X5_letterAt (by decide) rfl fo_X5 ko_X5 so_X5 rfl ab_cs_nil ?_ ?_
  · intro as M Po h
    unfold s_X5_letterAt at h
    split at h
    · simp [ab_e0]
    · exact h.elim
  · intro as M Po h G hG
    unfold s_X5_letterAt at h
    split at h
    · refine ab_go hG [] 60 _ _ _ _ ?_
      simp only [ab_en, ab_e0, List.length_cons, List.length_nil, Nat.reduceAdd, Nat.reduceSub, List.replicate, List.cons_append, List.nil_append]
      simp (decide := true) only [ew_n, ew_0, Option.toList_some, Option.toList_none, List.cons_append, List.nil_append, true_and, and_true, List.length_cons, List.length_nil, Nat.reduceAdd, Nat.reduceLeDiff, Int32.reduceAdd, Int32.reduceSub, Int32.reduceMul, Int32.reduceLT, Int32.reduceLE, Int32.reduceToNatClampNeg, ↓reduceIte, and_self, si_1, si_2, sl_1, sl_2, false_and, and_false, dX5_letterAt_0, dX5_letterAt_1, dX5_letterAt_4, dX5_letterAt_5, dX5_letterAt_6, dX5_letterAt_9, dX5_letterAt_12, dX5_letterAt_13, dX5_letterAt_14, dX5_letterAt_17, dX5_letterAt_18, dX5_letterAt_21, dX5_letterAt_22, dX5_letterAt_25, dX5_letterAt_26, dX5_letterAt_27, dX5_letterAt_30, dX5_letterAt_31, e_alen, e_aload_n0, e_getfield, e_iaload, e_iload_n1, e_ireturn, ea_2, el_2, gf_X5_15_1, gf_X5_9_1, j_goto_27_4, j_ic_m1, j_icmp_ge_18_12, j_icmp_ge_9_21, j_if_lt_1_29, ab_rn, bi_0, bi_1, ite_not]
      (repeat' split) <;> (try simp (decide := true) only [la_X, i0_le, *, not_false_eq_true, not_true_eq_false, and_self, true_and, and_true, or_false, false_or, or_true, true_or, false_and, and_false, not_and, ↓reduceIte] at h) <;> (try simp (decide := true) only [i0_le, *, not_false_eq_true, not_true_eq_false, and_self, true_and, and_true, or_false, false_or, or_true, true_or, false_and, and_false, not_and, ↓reduceIte]) <;> first | done | exact h | (exfalso; simp_all (decide := true) only [not_true_eq_false, not_false_eq_true, false_and, and_false, true_and, and_true]; done)
    · exact h.elim

def s_X5_figureAt : ab_Sem := fun as M Po => match as with
  | [.ref 1, .int x] => Po (some (.int (la_X M x - 48))) M
  | _ => False
theorem q_X5_figureAt {x : Int32} {M : ab_M} {Po : ab_P} : s_X5_figureAt [.ref 1, .int x] M Po = (Po (some (.int (la_X M x - 48))) M) := rfl
abbrev x_X5_figureAt : ab_X := (some .int, fl_X5, [(38, 2, s_X5_letterAt)], kl_X5, gs_X5, ab_ros)
theorem ca_X5_figureAt_19 {v0 v1 : Value} {st : List Value} {M : ab_M} {k : List Value → ab_M → Prop} : ab_ca x_X5_figureAt (2 * 19) (v1 :: v0 :: st) M k = (st.length ≤ 4 ∧ s_X5_letterAt [v0, v1] M (fun r M' => k (r.toList ++ st) M')) := rfl
theorem r_X5_figureAt : ∀ (as : List Value) (M : ab_M) (Po : ab_P), s_X5_figureAt as M Po → ∃ (q : Nat) (as' : List Value) (ci : Nat) (T : u_T) (N : Nat) (fs : List ab_F), as = .ref q :: as' ∧ ab_sh[q]? = some (.inl (ci, fs)) ∧ vwCl[ci]? = some (yX5_figureAt.cls, T, N) := by
  intro as M Po h
  unfold s_X5_figureAt at h
  split at h
  · first | exact ⟨_, _, 5, _, _, _, rfl, rfl, rfl⟩ | (rcases h.1 with rfl | rfl | rfl <;> exact ⟨_, _, 5, _, _, _, rfl, rfl, rfl⟩)
  · exact h.elim
set_option maxRecDepth 20000 in
set_option maxHeartbeats 4000000 in
theorem c_X5_figureAt {l : Launch} : ab_ctr l yX5_figureAt cX5_figureAt 2 (some .int) 1 21 s_X5_figureAt := by
  refine ab_met x_X5_figureAt (by decide) rfl fo_X5 ko_X5 so_X5 rfl (ab_cs_cons (ab_kV c_X5_letterAt ml_X5_19 v_X5_letterAt ⟨rfl, rfl⟩ r_X5_letterAt) ab_cs_nil) ?_ ?_
  · intro as M Po h
    unfold s_X5_figureAt at h
    split at h
    · simp [ab_e0]
    · exact h.elim
  · intro as M Po h G hG
    unfold s_X5_figureAt at h
    split at h
    · refine ab_go hG [] 60 _ _ _ _ ?_
      simp only [ab_en, ab_e0, List.length_cons, List.length_nil, Nat.reduceAdd, Nat.reduceSub, List.replicate, List.cons_append, List.nil_append]
      simp (decide := true) only [ew_n, ew_0, Option.toList_some, Option.toList_none, List.cons_append, List.nil_append, true_and, and_true, List.length_cons, List.length_nil, Nat.reduceAdd, Nat.reduceLeDiff, Int32.reduceAdd, Int32.reduceSub, Int32.reduceMul, Int32.reduceLT, Int32.reduceLE, Int32.reduceToNatClampNeg, ↓reduceIte, and_self, si_1, si_2, sl_1, sl_2, false_and, and_false, dX5_figureAt_0, dX5_figureAt_1, dX5_figureAt_2, dX5_figureAt_5, dX5_figureAt_7, dX5_figureAt_8, ca_X5_figureAt_19, e_aload_n0, e_callv, e_iload_n1, e_ireturn, e_isub, j_bp_48, q_X5_letterAt, ab_rn, bi_0, bi_1, ite_not]
      exact h
    · exact h.elim

def s_X0_count : ab_Sem := fun as M Po => match as with
  | [.ref 14] => Po (some (.int (M.1 14 1))) M
  | _ => False
theorem q_X0_count {M : ab_M} {Po : ab_P} : s_X0_count [.ref 14] M Po = (Po (some (.int (M.1 14 1))) M) := rfl
abbrev x_X0_count : ab_X := (some .int, fl_X0, [], kl_X0, gs_X0, ab_ros)
theorem r_X0_count : ∀ (as : List Value) (M : ab_M) (Po : ab_P), s_X0_count as M Po → ∃ (q : Nat) (as' : List Value) (ci : Nat) (T : u_T) (N : Nat) (fs : List ab_F), as = .ref q :: as' ∧ ab_sh[q]? = some (.inl (ci, fs)) ∧ vwCl[ci]? = some (yX0_count.cls, T, N) := by
  intro as M Po h
  unfold s_X0_count at h
  split at h
  · first | exact ⟨_, _, 0, _, _, _, rfl, rfl, rfl⟩ | (rcases h.1 with rfl | rfl | rfl <;> exact ⟨_, _, 0, _, _, _, rfl, rfl, rfl⟩)
  · exact h.elim
set_option maxRecDepth 20000 in
set_option maxHeartbeats 4000000 in
theorem c_X0_count {l : Launch} : ab_ctr l yX0_count cX0_count 1 (some .int) 0 0 s_X0_count := by
  refine ab_met x_X0_count (by decide) rfl fo_X0 ko_X0 so_X0 rfl ab_cs_nil ?_ ?_
  · intro as M Po h
    unfold s_X0_count at h
    split at h
    · simp [ab_e0]
    · exact h.elim
  · intro as M Po h G hG
    unfold s_X0_count at h
    split at h
    · refine ab_go hG [] 60 _ _ _ _ ?_
      simp only [ab_en, ab_e0, List.length_cons, List.length_nil, Nat.reduceAdd, Nat.reduceSub, List.replicate, List.cons_append, List.nil_append]
      simp (decide := true) only [ew_n, ew_0, Option.toList_some, Option.toList_none, List.cons_append, List.nil_append, true_and, and_true, List.length_cons, List.length_nil, Nat.reduceAdd, Nat.reduceLeDiff, Int32.reduceAdd, Int32.reduceSub, Int32.reduceMul, Int32.reduceLT, Int32.reduceLE, Int32.reduceToNatClampNeg, ↓reduceIte, and_self, si_1, si_2, sl_1, sl_2, false_and, and_false, dX0_count_0, dX0_count_1, dX0_count_4, e_aload_n0, e_getfield, e_ireturn, gf_X0_15_14, ab_rn, bi_0, bi_1, ite_not]
      exact h
    · exact h.elim

def s_X0_forgetAll : ab_Sem := fun as M Po => match as with
  | [.ref 14] => Po none (ab_si M 14 1 0)
  | _ => False
theorem q_X0_forgetAll {M : ab_M} {Po : ab_P} : s_X0_forgetAll [.ref 14] M Po = (Po none (ab_si M 14 1 0)) := rfl
abbrev x_X0_forgetAll : ab_X := (none, fl_X0, [], kl_X0, gs_X0, ab_ros)
theorem r_X0_forgetAll : ∀ (as : List Value) (M : ab_M) (Po : ab_P), s_X0_forgetAll as M Po → ∃ (q : Nat) (as' : List Value) (ci : Nat) (T : u_T) (N : Nat) (fs : List ab_F), as = .ref q :: as' ∧ ab_sh[q]? = some (.inl (ci, fs)) ∧ vwCl[ci]? = some (yX0_forgetAll.cls, T, N) := by
  intro as M Po h
  unfold s_X0_forgetAll at h
  split at h
  · first | exact ⟨_, _, 0, _, _, _, rfl, rfl, rfl⟩ | (rcases h.1 with rfl | rfl | rfl <;> exact ⟨_, _, 0, _, _, _, rfl, rfl, rfl⟩)
  · exact h.elim
set_option maxRecDepth 20000 in
set_option maxHeartbeats 4000000 in
theorem c_X0_forgetAll {l : Launch} : ab_ctr l yX0_forgetAll cX0_forgetAll 1 none 0 0 s_X0_forgetAll := by
  refine ab_met x_X0_forgetAll (by decide) rfl fo_X0 ko_X0 so_X0 rfl ab_cs_nil ?_ ?_
  · intro as M Po h
    unfold s_X0_forgetAll at h
    split at h
    · simp [ab_e0]
    · exact h.elim
  · intro as M Po h G hG
    unfold s_X0_forgetAll at h
    split at h
    · refine ab_go hG [] 60 _ _ _ _ ?_
      simp only [ab_en, ab_e0, List.length_cons, List.length_nil, Nat.reduceAdd, Nat.reduceSub, List.replicate, List.cons_append, List.nil_append]
      simp (decide := true) only [ew_n, ew_0, Option.toList_some, Option.toList_none, List.cons_append, List.nil_append, true_and, and_true, List.length_cons, List.length_nil, Nat.reduceAdd, Nat.reduceLeDiff, Int32.reduceAdd, Int32.reduceSub, Int32.reduceMul, Int32.reduceLT, Int32.reduceLE, Int32.reduceToNatClampNeg, ↓reduceIte, and_self, si_1, si_2, sl_1, sl_2, false_and, and_false, dX0_forgetAll_0, dX0_forgetAll_1, dX0_forgetAll_2, dX0_forgetAll_5, e_aload_n0, e_putfield, e_return, j_ic_0, pf_X0_15_14, ab_rn, bi_0, bi_1, ite_not]
      exact h
    · exact h.elim

theorem tl_aux {c : Int32} (h : 0 < c) (h2 : ¬ 14 < c) : ¬ c - 1 < 0 ∧ c - 1 < 14 := by
  have key : ∀ j, j < 15 → 0 < nI j → ¬ nI j - 1 < 0 ∧ nI j - 1 < 14 := by decide
  obtain ⟨j, hj, rfl⟩ := nI_of2 (x := c) (M := 14) (n := 14) rfl (by
    intro h3
    have a1 := Int32.lt_iff_toInt_lt.mp h
    have a2 := Int32.lt_iff_toInt_lt.mp h3
    omega) (Int32.not_lt.mp h2)
  exact key j (by omega) h
def s_X0_takeLast : ab_Sem := fun as M Po => match as with
  | [.ref 14] => (if 0 < M.1 14 1 ∧ ¬ 14 < M.1 14 1 then Po (some (.long (M.2 15 (M.1 14 1 - 1).toNatClampNeg))) (ab_si M 14 1 (M.1 14 1 - 1)) else Po (some (.long 0)) M)
  | _ => False
theorem q_X0_takeLast {M : ab_M} {Po : ab_P} : s_X0_takeLast [.ref 14] M Po = ((if 0 < M.1 14 1 ∧ ¬ 14 < M.1 14 1 then Po (some (.long (M.2 15 (M.1 14 1 - 1).toNatClampNeg))) (ab_si M 14 1 (M.1 14 1 - 1)) else Po (some (.long 0)) M)) := rfl
abbrev x_X0_takeLast : ab_X := (some .long, fl_X0, [], kl_X0, gs_X0, ab_ros)
theorem r_X0_takeLast : ∀ (as : List Value) (M : ab_M) (Po : ab_P), s_X0_takeLast as M Po → ∃ (q : Nat) (as' : List Value) (ci : Nat) (T : u_T) (N : Nat) (fs : List ab_F), as = .ref q :: as' ∧ ab_sh[q]? = some (.inl (ci, fs)) ∧ vwCl[ci]? = some (yX0_takeLast.cls, T, N) := by
  intro as M Po h
  unfold s_X0_takeLast at h
  split at h
  · first | exact ⟨_, _, 0, _, _, _, rfl, rfl, rfl⟩ | (rcases h.1 with rfl | rfl | rfl <;> exact ⟨_, _, 0, _, _, _, rfl, rfl, rfl⟩)
  · exact h.elim
set_option maxRecDepth 20000 in
set_option maxHeartbeats 4000000 in
theorem c_X0_takeLast {l : Launch} : ab_ctr l yX0_takeLast cX0_takeLast 1 (some .long) 0 0 s_X0_takeLast := by
  refine ab_met x_X0_takeLast (by decide) rfl fo_X0 ko_X0 so_X0 rfl ab_cs_nil ?_ ?_
  · intro as M Po h
    unfold s_X0_takeLast at h
    split at h
    · simp [ab_e0]
    · exact h.elim
  · intro as M Po h G hG
    unfold s_X0_takeLast at h
    split at h
    · refine ab_go hG [] 60 _ _ _ _ ?_
      simp only [ab_en, ab_e0, List.length_cons, List.length_nil, Nat.reduceAdd, Nat.reduceSub, List.replicate, List.cons_append, List.nil_append]
      simp (decide := true) only [ew_n, ew_0, Option.toList_some, Option.toList_none, List.cons_append, List.nil_append, true_and, and_true, List.length_cons, List.length_nil, Nat.reduceAdd, Nat.reduceLeDiff, Int32.reduceAdd, Int32.reduceSub, Int32.reduceMul, Int32.reduceLT, Int32.reduceLE, Int32.reduceToNatClampNeg, ↓reduceIte, and_self, si_1, si_2, sl_1, sl_2, false_and, and_false, dX0_takeLast_0, dX0_takeLast_1, dX0_takeLast_4, dX0_takeLast_7, dX0_takeLast_8, dX0_takeLast_11, dX0_takeLast_12, dX0_takeLast_15, dX0_takeLast_16, dX0_takeLast_19, dX0_takeLast_20, dX0_takeLast_21, dX0_takeLast_22, dX0_takeLast_23, dX0_takeLast_26, dX0_takeLast_27, dX0_takeLast_28, dX0_takeLast_31, dX0_takeLast_32, dX0_takeLast_35, dX0_takeLast_36, dX0_takeLast_39, dX0_takeLast_40, e_alen, e_aload_n0, e_dupi, e_dupr, e_getfield, e_isub, e_laload, e_lconst0, e_lreturn, e_putfield, ea_15, el_15, gf_X0_15_14, gf_X0_9_14, j_ic_1, j_icmp_le_16_5, j_if_le_4_15, pf_X0_15_14, ab_rn, bi_0, bi_1, ite_not]
      (repeat' split) <;> (try simp (decide := true) only [i0_le, *, not_false_eq_true, not_true_eq_false, and_self, true_and, and_true, or_false, false_or, or_true, true_or, false_and, and_false, not_and, ↓reduceIte] at h) <;> (try simp (decide := true) only [i0_le, *, not_false_eq_true, not_true_eq_false, and_self, true_and, and_true, or_false, false_or, or_true, true_or, false_and, and_false, not_and, ↓reduceIte]) <;> first | done | exact h | (exfalso; simp_all (decide := true) only [not_true_eq_false, not_false_eq_true, false_and, and_false, true_and, and_true]; done) | (refine ⟨?_, h⟩; exact tl_aux ‹_› ‹_›) | exact tl_aux ‹_› ‹_›
    · exact h.elim

def s_X6_count : ab_Sem := fun as M Po => match as with
  | [.ref 25] => Po (some (.int (M.1 25 3))) M
  | _ => False
theorem q_X6_count {M : ab_M} {Po : ab_P} : s_X6_count [.ref 25] M Po = (Po (some (.int (M.1 25 3))) M) := rfl
abbrev x_X6_count : ab_X := (some .int, fl_X6, [], kl_X6, gs_X6, ab_ros)
theorem r_X6_count : ∀ (as : List Value) (M : ab_M) (Po : ab_P), s_X6_count as M Po → ∃ (q : Nat) (as' : List Value) (ci : Nat) (T : u_T) (N : Nat) (fs : List ab_F), as = .ref q :: as' ∧ ab_sh[q]? = some (.inl (ci, fs)) ∧ vwCl[ci]? = some (yX6_count.cls, T, N) := by
  intro as M Po h
  unfold s_X6_count at h
  split at h
  · first | exact ⟨_, _, 6, _, _, _, rfl, rfl, rfl⟩ | (rcases h.1 with rfl | rfl | rfl <;> exact ⟨_, _, 6, _, _, _, rfl, rfl, rfl⟩)
  · exact h.elim
set_option maxRecDepth 20000 in
set_option maxHeartbeats 4000000 in
theorem c_X6_count {l : Launch} : ab_ctr l yX6_count cX6_count 1 (some .int) 0 0 s_X6_count := by
  refine ab_met x_X6_count (by decide) rfl fo_X6 ko_X6 so_X6 rfl ab_cs_nil ?_ ?_
  · intro as M Po h
    unfold s_X6_count at h
    split at h
    · simp [ab_e0]
    · exact h.elim
  · intro as M Po h G hG
    unfold s_X6_count at h
    split at h
    · refine ab_go hG [] 60 _ _ _ _ ?_
      simp only [ab_en, ab_e0, List.length_cons, List.length_nil, Nat.reduceAdd, Nat.reduceSub, List.replicate, List.cons_append, List.nil_append]
      simp (decide := true) only [ew_n, ew_0, Option.toList_some, Option.toList_none, List.cons_append, List.nil_append, true_and, and_true, List.length_cons, List.length_nil, Nat.reduceAdd, Nat.reduceLeDiff, Int32.reduceAdd, Int32.reduceSub, Int32.reduceMul, Int32.reduceLT, Int32.reduceLE, Int32.reduceToNatClampNeg, ↓reduceIte, and_self, si_1, si_2, sl_1, sl_2, false_and, and_false, dX6_count_0, dX6_count_1, dX6_count_4, e_aload_n0, e_getfield, e_ireturn, gf_X6_22_25, ab_rn, bi_0, bi_1, ite_not]
      exact h
    · exact h.elim

def s_X6_forgetAll : ab_Sem := fun as M Po => match as with
  | [.ref 25] => Po none (ab_si M 25 3 0)
  | _ => False
theorem q_X6_forgetAll {M : ab_M} {Po : ab_P} : s_X6_forgetAll [.ref 25] M Po = (Po none (ab_si M 25 3 0)) := rfl
abbrev x_X6_forgetAll : ab_X := (none, fl_X6, [], kl_X6, gs_X6, ab_ros)
theorem r_X6_forgetAll : ∀ (as : List Value) (M : ab_M) (Po : ab_P), s_X6_forgetAll as M Po → ∃ (q : Nat) (as' : List Value) (ci : Nat) (T : u_T) (N : Nat) (fs : List ab_F), as = .ref q :: as' ∧ ab_sh[q]? = some (.inl (ci, fs)) ∧ vwCl[ci]? = some (yX6_forgetAll.cls, T, N) := by
  intro as M Po h
  unfold s_X6_forgetAll at h
  split at h
  · first | exact ⟨_, _, 6, _, _, _, rfl, rfl, rfl⟩ | (rcases h.1 with rfl | rfl | rfl <;> exact ⟨_, _, 6, _, _, _, rfl, rfl, rfl⟩)
  · exact h.elim
set_option maxRecDepth 20000 in
set_option maxHeartbeats 4000000 in
theorem c_X6_forgetAll {l : Launch} : ab_ctr l yX6_forgetAll cX6_forgetAll 1 none 0 0 s_X6_forgetAll := by
  refine ab_met x_X6_forgetAll (by decide) rfl fo_X6 ko_X6 so_X6 rfl ab_cs_nil ?_ ?_
  · intro as M Po h
    unfold s_X6_forgetAll at h
    split at h
    · simp [ab_e0]
    · exact h.elim
  · intro as M Po h G hG
    unfold s_X6_forgetAll at h
    split at h
    · refine ab_go hG [] 60 _ _ _ _ ?_
      simp only [ab_en, ab_e0, List.length_cons, List.length_nil, Nat.reduceAdd, Nat.reduceSub, List.replicate, List.cons_append, List.nil_append]
      simp (decide := true) only [ew_n, ew_0, Option.toList_some, Option.toList_none, List.cons_append, List.nil_append, true_and, and_true, List.length_cons, List.length_nil, Nat.reduceAdd, Nat.reduceLeDiff, Int32.reduceAdd, Int32.reduceSub, Int32.reduceMul, Int32.reduceLT, Int32.reduceLE, Int32.reduceToNatClampNeg, ↓reduceIte, and_self, si_1, si_2, sl_1, sl_2, false_and, and_false, dX6_forgetAll_0, dX6_forgetAll_1, dX6_forgetAll_2, dX6_forgetAll_5, e_aload_n0, e_putfield, e_return, j_ic_0, pf_X6_22_25, ab_rn, bi_0, bi_1, ite_not]
      exact h
    · exact h.elim

def s_X6_add : ab_Sem := fun as M Po => match as with
  | [.ref 25, .int x, .int y, .int z] => Po none (if M.1 25 3 < 0 then M else if M.1 25 3 < 6 then ab_si (ab_si (ab_si (ab_si M 26 (M.1 25 3).toNatClampNeg x) 27 (M.1 25 3).toNatClampNeg y) 28 (M.1 25 3).toNatClampNeg (vp_nar .boolean z)) 25 3 (M.1 25 3 + 1) else M)
  | _ => False
theorem q_X6_add {x y z : Int32} {M : ab_M} {Po : ab_P} : s_X6_add [.ref 25, .int x, .int y, .int z] M Po = (Po none (if M.1 25 3 < 0 then M else if M.1 25 3 < 6 then ab_si (ab_si (ab_si (ab_si M 26 (M.1 25 3).toNatClampNeg x) 27 (M.1 25 3).toNatClampNeg y) 28 (M.1 25 3).toNatClampNeg (vp_nar .boolean z)) 25 3 (M.1 25 3 + 1) else M)) := rfl
abbrev x_X6_add : ab_X := (none, fl_X6, [], kl_X6, gs_X6, ab_ros)
theorem r_X6_add : ∀ (as : List Value) (M : ab_M) (Po : ab_P), s_X6_add as M Po → ∃ (q : Nat) (as' : List Value) (ci : Nat) (T : u_T) (N : Nat) (fs : List ab_F), as = .ref q :: as' ∧ ab_sh[q]? = some (.inl (ci, fs)) ∧ vwCl[ci]? = some (yX6_add.cls, T, N) := by
  intro as M Po h
  unfold s_X6_add at h
  split at h
  · first | exact ⟨_, _, 6, _, _, _, rfl, rfl, rfl⟩ | (rcases h.1 with rfl | rfl | rfl <;> exact ⟨_, _, 6, _, _, _, rfl, rfl, rfl⟩)
  · exact h.elim
set_option maxRecDepth 20000 in
set_option maxHeartbeats 4000000 in
theorem c_X6_add {l : Launch} : ab_ctr l yX6_add cX6_add 4 none 0 0 s_X6_add := by
  refine ab_met x_X6_add (by decide) rfl fo_X6 ko_X6 so_X6 rfl ab_cs_nil ?_ ?_
  · intro as M Po h
    unfold s_X6_add at h
    split at h
    · simp [ab_e0]
    · exact h.elim
  · intro as M Po h G hG
    unfold s_X6_add at h
    split at h
    · refine ab_go hG [] 60 _ _ _ _ ?_
      simp only [ab_en, ab_e0, List.length_cons, List.length_nil, Nat.reduceAdd, Nat.reduceSub, List.replicate, List.cons_append, List.nil_append]
      simp (decide := true) only [ew_n, ew_0, Option.toList_some, Option.toList_none, List.cons_append, List.nil_append, true_and, and_true, List.length_cons, List.length_nil, Nat.reduceAdd, Nat.reduceLeDiff, Int32.reduceAdd, Int32.reduceSub, Int32.reduceMul, Int32.reduceLT, Int32.reduceLE, Int32.reduceToNatClampNeg, ↓reduceIte, and_self, si_1, si_2, sl_1, sl_2, false_and, and_false, dX6_add_0, dX6_add_1, dX6_add_4, dX6_add_7, dX6_add_8, dX6_add_11, dX6_add_13, dX6_add_16, dX6_add_17, dX6_add_18, dX6_add_21, dX6_add_22, dX6_add_25, dX6_add_26, dX6_add_27, dX6_add_28, dX6_add_31, dX6_add_32, dX6_add_35, dX6_add_36, dX6_add_37, dX6_add_38, dX6_add_41, dX6_add_42, dX6_add_45, dX6_add_46, dX6_add_47, dX6_add_48, dX6_add_49, dX6_add_52, dX6_add_53, dX6_add_54, dX6_add_57, e_aload_n0, e_bastore, e_dupi, e_dupr, e_getfield, e_iadd, e_iastore, e_iload_n1, e_iload_n2, e_iload_n3, e_putfield, e_return, es_26, es_27, es_28, gf_X6_15_25, gf_X6_18_25, gf_X6_22_25, gf_X6_9_25, j_bp_6, j_ic_1, j_icmp_lt_13_4, j_if_lt_4_12, pf_X6_22_25, ab_rn, bi_0, bi_1, ite_not]
      (repeat' split) <;> (try simp (decide := true) only [i0_le, *, not_false_eq_true, not_true_eq_false, and_self, true_and, and_true, or_false, false_or, or_true, true_or, false_and, and_false, not_and, ↓reduceIte] at h) <;> (try simp (decide := true) only [i0_le, *, not_false_eq_true, not_true_eq_false, and_self, true_and, and_true, or_false, false_or, or_true, true_or, false_and, and_false, not_and, ↓reduceIte]) <;> first | done | exact h | (exfalso; simp_all (decide := true) only [not_true_eq_false, not_false_eq_true, false_and, and_false, true_and, and_true]; done)
    · exact h.elim

