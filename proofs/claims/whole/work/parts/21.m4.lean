/-! METHODS: March, without loops, and loops of five -/
def s_X2_mile : ab_Sem := fun as M Po => match as with
  | [.ref q] => (q = 12 ∨ q = 18 ∨ q = 23) ∧ Po (some (.int (M.1 q 3))) M
  | _ => False
theorem q_X2_mile {q : Nat} {M : ab_M} {Po : ab_P} : s_X2_mile [.ref q] M Po = ((q = 12 ∨ q = 18 ∨ q = 23) ∧ Po (some (.int (M.1 q 3))) M) := rfl
abbrev x_X2_mile : ab_X := (some .int, fl_X2, [], kl_X2, gs_X2, ab_ros)
theorem r_X2_mile : ∀ (as : List Value) (M : ab_M) (Po : ab_P), s_X2_mile as M Po → ∃ (q : Nat) (as' : List Value) (ci : Nat) (T : u_T) (N : Nat) (fs : List ab_F), as = .ref q :: as' ∧ ab_sh[q]? = some (.inl (ci, fs)) ∧ vwCl[ci]? = some (yX2_mile.cls, T, N) := by
  intro as M Po h
  unfold s_X2_mile at h
  split at h
  · first | exact ⟨_, _, 2, _, _, _, rfl, rfl, rfl⟩ | (rcases h.1 with rfl | rfl | rfl <;> exact ⟨_, _, 2, _, _, _, rfl, rfl, rfl⟩)
  · exact h.elim
set_option maxRecDepth 20000 in
set_option maxHeartbeats 4000000 in
theorem c_X2_mile {l : Launch} : ab_ctr l yX2_mile cX2_mile 1 (some .int) 0 0 s_X2_mile := by
  refine ab_met x_X2_mile (by decide) rfl fo_X2 ko_X2 so_X2 rfl ab_cs_nil ?_ ?_
  · intro as M Po h
    unfold s_X2_mile at h
    split at h
    · simp [ab_e0]
    · exact h.elim
  · intro as M Po h G hG
    unfold s_X2_mile at h
    split at h
    · simp only [ab_en, ab_e0, List.length_cons, List.length_nil, Nat.reduceAdd, Nat.reduceSub, List.replicate, List.cons_append, List.nil_append]
      obtain ⟨hq, h⟩ := h
      (try simp only [Nat.reduceAdd] at h)
      rcases hq with rfl | rfl | rfl <;> (try simp only [Nat.reduceAdd] at h)
      all_goals refine ab_go hG [] 60 _ _ _ _ ?_
      all_goals simp (decide := true) only [ew_n, ew_0, Option.toList_some, Option.toList_none, List.cons_append, List.nil_append, true_and, and_true, List.length_cons, List.length_nil, Nat.reduceAdd, Nat.reduceLeDiff, Int32.reduceAdd, Int32.reduceSub, Int32.reduceMul, Int32.reduceLT, Int32.reduceLE, Int32.reduceToNatClampNeg, ↓reduceIte, and_self, si_1, si_2, sl_1, sl_2, false_and, and_false, dX2_mile_0, dX2_mile_1, dX2_mile_4, e_aload_n0, e_getfield, e_ireturn, gf_X2_27_12, gf_X2_27_18, gf_X2_27_23, ab_rn, bi_0, bi_1, ite_not]
      all_goals
      exact h
    · exact h.elim

def s_X2_dayNumber : ab_Sem := fun as M Po => match as with
  | [.ref q] => (q = 12 ∨ q = 18 ∨ q = 23) ∧ Po (some (.int (M.1 q 4))) M
  | _ => False
theorem q_X2_dayNumber {q : Nat} {M : ab_M} {Po : ab_P} : s_X2_dayNumber [.ref q] M Po = ((q = 12 ∨ q = 18 ∨ q = 23) ∧ Po (some (.int (M.1 q 4))) M) := rfl
abbrev x_X2_dayNumber : ab_X := (some .int, fl_X2, [], kl_X2, gs_X2, ab_ros)
theorem r_X2_dayNumber : ∀ (as : List Value) (M : ab_M) (Po : ab_P), s_X2_dayNumber as M Po → ∃ (q : Nat) (as' : List Value) (ci : Nat) (T : u_T) (N : Nat) (fs : List ab_F), as = .ref q :: as' ∧ ab_sh[q]? = some (.inl (ci, fs)) ∧ vwCl[ci]? = some (yX2_dayNumber.cls, T, N) := by
  intro as M Po h
  unfold s_X2_dayNumber at h
  split at h
  · first | exact ⟨_, _, 2, _, _, _, rfl, rfl, rfl⟩ | (rcases h.1 with rfl | rfl | rfl <;> exact ⟨_, _, 2, _, _, _, rfl, rfl, rfl⟩)
  · exact h.elim
set_option maxRecDepth 20000 in
set_option maxHeartbeats 4000000 in
theorem c_X2_dayNumber {l : Launch} : ab_ctr l yX2_dayNumber cX2_dayNumber 1 (some .int) 0 0 s_X2_dayNumber := by
  refine ab_met x_X2_dayNumber (by decide) rfl fo_X2 ko_X2 so_X2 rfl ab_cs_nil ?_ ?_
  · intro as M Po h
    unfold s_X2_dayNumber at h
    split at h
    · simp [ab_e0]
    · exact h.elim
  · intro as M Po h G hG
    unfold s_X2_dayNumber at h
    split at h
    · simp only [ab_en, ab_e0, List.length_cons, List.length_nil, Nat.reduceAdd, Nat.reduceSub, List.replicate, List.cons_append, List.nil_append]
      obtain ⟨hq, h⟩ := h
      (try simp only [Nat.reduceAdd] at h)
      rcases hq with rfl | rfl | rfl <;> (try simp only [Nat.reduceAdd] at h)
      all_goals refine ab_go hG [] 60 _ _ _ _ ?_
      all_goals simp (decide := true) only [ew_n, ew_0, Option.toList_some, Option.toList_none, List.cons_append, List.nil_append, true_and, and_true, List.length_cons, List.length_nil, Nat.reduceAdd, Nat.reduceLeDiff, Int32.reduceAdd, Int32.reduceSub, Int32.reduceMul, Int32.reduceLT, Int32.reduceLE, Int32.reduceToNatClampNeg, ↓reduceIte, and_self, si_1, si_2, sl_1, sl_2, false_and, and_false, dX2_dayNumber_0, dX2_dayNumber_1, dX2_dayNumber_4, e_aload_n0, e_getfield, e_ireturn, gf_X2_30_12, gf_X2_30_18, gf_X2_30_23, ab_rn, bi_0, bi_1, ite_not]
      all_goals
      exact h
    · exact h.elim

def s_X2_end : ab_Sem := fun as M Po => match as with
  | [.ref q] => (q = 12 ∨ q = 18 ∨ q = 23) ∧ Po (some (.int (M.1 3 5))) M
  | _ => False
theorem q_X2_end {q : Nat} {M : ab_M} {Po : ab_P} : s_X2_end [.ref q] M Po = ((q = 12 ∨ q = 18 ∨ q = 23) ∧ Po (some (.int (M.1 3 5))) M) := rfl
abbrev x_X2_end : ab_X := (some .int, fl_X2, [(66, 1, s_X4_end)], kl_X2, gs_X2, ab_ros)
theorem ca_X2_end_33 {v0 : Value} {st : List Value} {M : ab_M} {k : List Value → ab_M → Prop} : ab_ca x_X2_end (2 * 33) (v0 :: st) M k = (st.length ≤ 4 ∧ s_X4_end [v0] M (fun r M' => k (r.toList ++ st) M')) := rfl
theorem r_X2_end : ∀ (as : List Value) (M : ab_M) (Po : ab_P), s_X2_end as M Po → ∃ (q : Nat) (as' : List Value) (ci : Nat) (T : u_T) (N : Nat) (fs : List ab_F), as = .ref q :: as' ∧ ab_sh[q]? = some (.inl (ci, fs)) ∧ vwCl[ci]? = some (yX2_end.cls, T, N) := by
  intro as M Po h
  unfold s_X2_end at h
  split at h
  · first | exact ⟨_, _, 2, _, _, _, rfl, rfl, rfl⟩ | (rcases h.1 with rfl | rfl | rfl <;> exact ⟨_, _, 2, _, _, _, rfl, rfl, rfl⟩)
  · exact h.elim
set_option maxRecDepth 20000 in
set_option maxHeartbeats 4000000 in
theorem c_X2_end {l : Launch} : ab_ctr l yX2_end cX2_end 1 (some .int) 1 20 s_X2_end := by
  refine ab_met x_X2_end (by decide) rfl fo_X2 ko_X2 so_X2 rfl (ab_cs_cons (ab_kV c_X4_end ml_X2_33 v_X4_end ⟨rfl, rfl⟩ r_X4_end) ab_cs_nil) ?_ ?_
  · intro as M Po h
    unfold s_X2_end at h
    split at h
    · simp [ab_e0]
    · exact h.elim
  · intro as M Po h G hG
    unfold s_X2_end at h
    split at h
    · simp only [ab_en, ab_e0, List.length_cons, List.length_nil, Nat.reduceAdd, Nat.reduceSub, List.replicate, List.cons_append, List.nil_append]
      obtain ⟨hq, h⟩ := h
      (try simp only [Nat.reduceAdd] at h)
      rcases hq with rfl | rfl | rfl <;> (try simp only [Nat.reduceAdd] at h)
      all_goals refine ab_go hG [] 60 _ _ _ _ ?_
      all_goals simp (decide := true) only [ew_n, ew_0, Option.toList_some, Option.toList_none, List.cons_append, List.nil_append, true_and, and_true, List.length_cons, List.length_nil, Nat.reduceAdd, Nat.reduceLeDiff, Int32.reduceAdd, Int32.reduceSub, Int32.reduceMul, Int32.reduceLT, Int32.reduceLE, Int32.reduceToNatClampNeg, ↓reduceIte, and_self, si_1, si_2, sl_1, sl_2, false_and, and_false, dX2_end_0, dX2_end_1, dX2_end_4, dX2_end_7, ca_X2_end_33, e_aload_n0, e_callv, e_getfield, e_ireturn, gf_X2_19_12, gf_X2_19_18, gf_X2_19_23, q_X4_end, ab_rn, bi_0, bi_1, ite_not]
      all_goals
      exact h
    · exact h.elim

def s_X2_menCount : ab_Sem := fun as M Po => match as with
  | [.ref q] => (q = 12 ∨ q = 18 ∨ q = 23) ∧ Po (some (.int (M.1 8 3))) M
  | _ => False
theorem q_X2_menCount {q : Nat} {M : ab_M} {Po : ab_P} : s_X2_menCount [.ref q] M Po = ((q = 12 ∨ q = 18 ∨ q = 23) ∧ Po (some (.int (M.1 8 3))) M) := rfl
abbrev x_X2_menCount : ab_X := (some .int, fl_X2, [(78, 1, s_X7_count)], kl_X2, gs_X2, ab_ros)
theorem ca_X2_menCount_39 {v0 : Value} {st : List Value} {M : ab_M} {k : List Value → ab_M → Prop} : ab_ca x_X2_menCount (2 * 39) (v0 :: st) M k = (st.length ≤ 4 ∧ s_X7_count [v0] M (fun r M' => k (r.toList ++ st) M')) := rfl
theorem r_X2_menCount : ∀ (as : List Value) (M : ab_M) (Po : ab_P), s_X2_menCount as M Po → ∃ (q : Nat) (as' : List Value) (ci : Nat) (T : u_T) (N : Nat) (fs : List ab_F), as = .ref q :: as' ∧ ab_sh[q]? = some (.inl (ci, fs)) ∧ vwCl[ci]? = some (yX2_menCount.cls, T, N) := by
  intro as M Po h
  unfold s_X2_menCount at h
  split at h
  · first | exact ⟨_, _, 2, _, _, _, rfl, rfl, rfl⟩ | (rcases h.1 with rfl | rfl | rfl <;> exact ⟨_, _, 2, _, _, _, rfl, rfl, rfl⟩)
  · exact h.elim
set_option maxRecDepth 20000 in
set_option maxHeartbeats 4000000 in
theorem c_X2_menCount {l : Launch} : ab_ctr l yX2_menCount cX2_menCount 1 (some .int) 1 20 s_X2_menCount := by
  refine ab_met x_X2_menCount (by decide) rfl fo_X2 ko_X2 so_X2 rfl (ab_cs_cons (ab_kV c_X7_count ml_X2_39 v_X7_count ⟨rfl, rfl⟩ r_X7_count) ab_cs_nil) ?_ ?_
  · intro as M Po h
    unfold s_X2_menCount at h
    split at h
    · simp [ab_e0]
    · exact h.elim
  · intro as M Po h G hG
    unfold s_X2_menCount at h
    split at h
    · simp only [ab_en, ab_e0, List.length_cons, List.length_nil, Nat.reduceAdd, Nat.reduceSub, List.replicate, List.cons_append, List.nil_append]
      obtain ⟨hq, h⟩ := h
      (try simp only [Nat.reduceAdd] at h)
      rcases hq with rfl | rfl | rfl <;> (try simp only [Nat.reduceAdd] at h)
      all_goals refine ab_go hG [] 60 _ _ _ _ ?_
      all_goals simp (decide := true) only [ew_n, ew_0, Option.toList_some, Option.toList_none, List.cons_append, List.nil_append, true_and, and_true, List.length_cons, List.length_nil, Nat.reduceAdd, Nat.reduceLeDiff, Int32.reduceAdd, Int32.reduceSub, Int32.reduceMul, Int32.reduceLT, Int32.reduceLE, Int32.reduceToNatClampNeg, ↓reduceIte, and_self, si_1, si_2, sl_1, sl_2, false_and, and_false, dX2_menCount_0, dX2_menCount_1, dX2_menCount_4, dX2_menCount_7, ca_X2_menCount_39, e_aload_n0, e_callv, e_getfield, e_ireturn, gf_X2_23_12, gf_X2_23_18, gf_X2_23_23, q_X7_count, ab_rn, bi_0, bi_1, ite_not]
      all_goals
      exact h
    · exact h.elim

def s_X2_isThere : ab_Sem := fun as M Po => match as with
  | [.ref q] => (q = 12 ∨ q = 18 ∨ q = 23) ∧ Po (some (.int (if ¬ M.1 q 3 < M.1 3 5 then 1 else 0))) M
  | _ => False
theorem q_X2_isThere {q : Nat} {M : ab_M} {Po : ab_P} : s_X2_isThere [.ref q] M Po = ((q = 12 ∨ q = 18 ∨ q = 23) ∧ Po (some (.int (if ¬ M.1 q 3 < M.1 3 5 then 1 else 0))) M) := rfl
abbrev x_X2_isThere : ab_X := (some .boolean, fl_X2, [(66, 1, s_X4_end)], kl_X2, gs_X2, ab_ros)
theorem ca_X2_isThere_33 {v0 : Value} {st : List Value} {M : ab_M} {k : List Value → ab_M → Prop} : ab_ca x_X2_isThere (2 * 33) (v0 :: st) M k = (st.length ≤ 4 ∧ s_X4_end [v0] M (fun r M' => k (r.toList ++ st) M')) := rfl
theorem r_X2_isThere : ∀ (as : List Value) (M : ab_M) (Po : ab_P), s_X2_isThere as M Po → ∃ (q : Nat) (as' : List Value) (ci : Nat) (T : u_T) (N : Nat) (fs : List ab_F), as = .ref q :: as' ∧ ab_sh[q]? = some (.inl (ci, fs)) ∧ vwCl[ci]? = some (yX2_isThere.cls, T, N) := by
  intro as M Po h
  unfold s_X2_isThere at h
  split at h
  · first | exact ⟨_, _, 2, _, _, _, rfl, rfl, rfl⟩ | (rcases h.1 with rfl | rfl | rfl <;> exact ⟨_, _, 2, _, _, _, rfl, rfl, rfl⟩)
  · exact h.elim
set_option maxRecDepth 20000 in
set_option maxHeartbeats 4000000 in
theorem c_X2_isThere {l : Launch} : ab_ctr l yX2_isThere cX2_isThere 1 (some .boolean) 1 20 s_X2_isThere := by
  refine ab_met x_X2_isThere (by decide) rfl fo_X2 ko_X2 so_X2 rfl (ab_cs_cons (ab_kV c_X4_end ml_X2_33 v_X4_end ⟨rfl, rfl⟩ r_X4_end) ab_cs_nil) ?_ ?_
  · intro as M Po h
    unfold s_X2_isThere at h
    split at h
    · simp [ab_e0]
    · exact h.elim
  · intro as M Po h G hG
    unfold s_X2_isThere at h
    split at h
    · simp only [ab_en, ab_e0, List.length_cons, List.length_nil, Nat.reduceAdd, Nat.reduceSub, List.replicate, List.cons_append, List.nil_append]
      obtain ⟨hq, h⟩ := h
      (try simp only [Nat.reduceAdd] at h)
      rcases hq with rfl | rfl | rfl <;> (try simp only [Nat.reduceAdd] at h)
      all_goals refine ab_go hG [] 60 _ _ _ _ ?_
      all_goals simp (decide := true) only [ew_n, ew_0, Option.toList_some, Option.toList_none, List.cons_append, List.nil_append, true_and, and_true, List.length_cons, List.length_nil, Nat.reduceAdd, Nat.reduceLeDiff, Int32.reduceAdd, Int32.reduceSub, Int32.reduceMul, Int32.reduceLT, Int32.reduceLE, Int32.reduceToNatClampNeg, ↓reduceIte, and_self, si_1, si_2, sl_1, sl_2, false_and, and_false, dX2_isThere_0, dX2_isThere_1, dX2_isThere_4, dX2_isThere_5, dX2_isThere_8, dX2_isThere_11, dX2_isThere_14, dX2_isThere_15, dX2_isThere_18, dX2_isThere_19, ca_X2_isThere_33, e_aload_n0, e_callv, e_getfield, e_ireturn, gf_X2_19_12, gf_X2_19_18, gf_X2_19_23, gf_X2_27_12, gf_X2_27_18, gf_X2_27_23, j_goto_15_4, j_ic_0, j_ic_1, j_icmp_lt_11_7, q_X4_end, ab_rn, bi_0, bi_1, ite_not]
      all_goals
        (repeat' split) <;> (try simp (decide := true) only [i0_le, *, not_false_eq_true, not_true_eq_false, and_self, true_and, and_true, or_false, false_or, or_true, true_or, false_and, and_false, not_and, ↓reduceIte] at h) <;> (try simp (decide := true) only [i0_le, *, not_false_eq_true, not_true_eq_false, and_self, true_and, and_true, or_false, false_or, or_true, true_or, false_and, and_false, not_and, ↓reduceIte]) <;> first | done | exact h | (exfalso; simp_all (decide := true) only [not_true_eq_false, not_false_eq_true, false_and, and_false, true_and, and_true]; done)
    · exact h.elim

def s_X2_thornsOf : ab_Sem := fun as M Po => match as with
  | [.ref q, .int x] => (q = 12 ∨ q = 18 ∨ q = 23) ∧ Po (some (.int (th_X M q x))) M
  | _ => False
theorem q_X2_thornsOf {q : Nat} {x : Int32} {M : ab_M} {Po : ab_P} : s_X2_thornsOf [.ref q, .int x] M Po = ((q = 12 ∨ q = 18 ∨ q = 23) ∧ Po (some (.int (th_X M q x))) M) := rfl
abbrev x_X2_thornsOf : ab_X := (some .int, fl_X2, [], kl_X2, gs_X2, ab_ros)
theorem r_X2_thornsOf : ∀ (as : List Value) (M : ab_M) (Po : ab_P), s_X2_thornsOf as M Po → ∃ (q : Nat) (as' : List Value) (ci : Nat) (T : u_T) (N : Nat) (fs : List ab_F), as = .ref q :: as' ∧ ab_sh[q]? = some (.inl (ci, fs)) ∧ vwCl[ci]? = some (yX2_thornsOf.cls, T, N) := by
  intro as M Po h
  unfold s_X2_thornsOf at h
  split at h
  · first | exact ⟨_, _, 2, _, _, _, rfl, rfl, rfl⟩ | (rcases h.1 with rfl | rfl | rfl <;> exact ⟨_, _, 2, _, _, _, rfl, rfl, rfl⟩)
  · exact h.elim
set_option maxRecDepth 20000 in
set_option maxHeartbeats 4000000 in
theorem c_X2_thornsOf {l : Launch} : ab_ctr l yX2_thornsOf cX2_thornsOf 2 (some .int) 0 0 s_X2_thornsOf := by
  refine ab_met x_X2_thornsOf (by decide) rfl fo_X2 ko_X2 so_X2 rfl ab_cs_nil ?_ ?_
  · intro as M Po h
    unfold s_X2_thornsOf at h
    split at h
    · simp [ab_e0]
    · exact h.elim
  · intro as M Po h G hG
    unfold s_X2_thornsOf at h
    split at h
    · simp only [ab_en, ab_e0, List.length_cons, List.length_nil, Nat.reduceAdd, Nat.reduceSub, List.replicate, List.cons_append, List.nil_append]
      obtain ⟨hq, h⟩ := h
      (try simp only [Nat.reduceAdd] at h)
      rcases hq with rfl | rfl | rfl <;> (try simp only [Nat.reduceAdd] at h)
      all_goals refine ab_go hG [] 60 _ _ _ _ ?_
      all_goals simp (decide := true) only [ew_n, ew_0, Option.toList_some, Option.toList_none, List.cons_append, List.nil_append, true_and, and_true, List.length_cons, List.length_nil, Nat.reduceAdd, Nat.reduceLeDiff, Int32.reduceAdd, Int32.reduceSub, Int32.reduceMul, Int32.reduceLT, Int32.reduceLE, Int32.reduceToNatClampNeg, ↓reduceIte, and_self, si_1, si_2, sl_1, sl_2, false_and, and_false, dX2_thornsOf_0, dX2_thornsOf_1, dX2_thornsOf_4, dX2_thornsOf_5, dX2_thornsOf_6, dX2_thornsOf_9, dX2_thornsOf_10, dX2_thornsOf_13, dX2_thornsOf_14, dX2_thornsOf_17, dX2_thornsOf_18, dX2_thornsOf_19, dX2_thornsOf_22, dX2_thornsOf_23, e_alen, e_aload_n0, e_getfield, e_iaload, e_iload_n1, e_ireturn, ea_13, ea_19, ea_24, el_13, el_19, el_24, gf_X2_9_12, gf_X2_9_18, gf_X2_9_23, j_goto_19_4, j_ic_0, j_icmp_ge_10_12, j_if_lt_1_21, ab_rn, bi_0, bi_1, ite_not]
      all_goals
        (repeat' split) <;> (try simp (decide := true) only [th_X, Nat.reduceAdd, i0_le, *, not_false_eq_true, not_true_eq_false, and_self, true_and, and_true, or_false, false_or, or_true, true_or, false_and, and_false, not_and, ↓reduceIte] at h) <;> (try simp (decide := true) only [i0_le, *, not_false_eq_true, not_true_eq_false, and_self, true_and, and_true, or_false, false_or, or_true, true_or, false_and, and_false, not_and, ↓reduceIte]) <;> first | done | exact h | (exfalso; simp_all (decide := true) only [not_true_eq_false, not_false_eq_true, false_and, and_false, true_and, and_true]; done)
    · exact h.elim

def s_X2_allThorns : ab_Sem := fun as M Po => match as with
  | [.ref q] => (q = 12 ∨ q = 18 ∨ q = 23) ∧ Po (some (.int (0 + M.1 (q + 1) 0 + M.1 (q + 1) 1 + M.1 (q + 1) 2 + M.1 (q + 1) 3 + M.1 (q + 1) 4))) M
  | _ => False
theorem q_X2_allThorns {q : Nat} {M : ab_M} {Po : ab_P} : s_X2_allThorns [.ref q] M Po = ((q = 12 ∨ q = 18 ∨ q = 23) ∧ Po (some (.int (0 + M.1 (q + 1) 0 + M.1 (q + 1) 1 + M.1 (q + 1) 2 + M.1 (q + 1) 3 + M.1 (q + 1) 4))) M) := rfl
abbrev x_X2_allThorns : ab_X := (some .int, fl_X2, [], kl_X2, gs_X2, ab_ros)
theorem r_X2_allThorns : ∀ (as : List Value) (M : ab_M) (Po : ab_P), s_X2_allThorns as M Po → ∃ (q : Nat) (as' : List Value) (ci : Nat) (T : u_T) (N : Nat) (fs : List ab_F), as = .ref q :: as' ∧ ab_sh[q]? = some (.inl (ci, fs)) ∧ vwCl[ci]? = some (yX2_allThorns.cls, T, N) := by
  intro as M Po h
  unfold s_X2_allThorns at h
  split at h
  · first | exact ⟨_, _, 2, _, _, _, rfl, rfl, rfl⟩ | (rcases h.1 with rfl | rfl | rfl <;> exact ⟨_, _, 2, _, _, _, rfl, rfl, rfl⟩)
  · exact h.elim
set_option maxRecDepth 20000 in
set_option maxHeartbeats 4000000 in
theorem c_X2_allThorns {l : Launch} : ab_ctr l yX2_allThorns cX2_allThorns 3 (some .int) 0 0 s_X2_allThorns := by
  refine ab_met x_X2_allThorns (by decide) rfl fo_X2 ko_X2 so_X2 rfl ab_cs_nil ?_ ?_
  · intro as M Po h
    unfold s_X2_allThorns at h
    split at h
    · simp [ab_e0]
    · exact h.elim
  · intro as M Po h G hG
    unfold s_X2_allThorns at h
    split at h
    · simp only [ab_en, ab_e0, List.length_cons, List.length_nil, Nat.reduceAdd, Nat.reduceSub, List.replicate, List.cons_append, List.nil_append]
      obtain ⟨hq, h⟩ := h
      (try simp only [Nat.reduceAdd] at h)
      rcases hq with rfl | rfl | rfl <;> (try simp only [Nat.reduceAdd] at h)
      all_goals refine ab_go hG [] 120 _ _ _ _ ?_
      all_goals simp (decide := true) only [ew_n, ew_0, Option.toList_some, Option.toList_none, List.cons_append, List.nil_append, true_and, and_true, List.length_cons, List.length_nil, Nat.reduceAdd, Nat.reduceLeDiff, Int32.reduceAdd, Int32.reduceSub, Int32.reduceMul, Int32.reduceLT, Int32.reduceLE, Int32.reduceToNatClampNeg, ↓reduceIte, and_self, si_1, si_2, sl_1, sl_2, false_and, and_false, dX2_allThorns_0, dX2_allThorns_1, dX2_allThorns_2, dX2_allThorns_3, dX2_allThorns_4, dX2_allThorns_5, dX2_allThorns_6, dX2_allThorns_9, dX2_allThorns_10, dX2_allThorns_13, dX2_allThorns_14, dX2_allThorns_15, dX2_allThorns_18, dX2_allThorns_19, dX2_allThorns_20, dX2_allThorns_21, dX2_allThorns_22, dX2_allThorns_25, dX2_allThorns_28, dX2_allThorns_29, e_alen, e_aload_n0, e_getfield, e_iadd, e_iaload, e_iload_n1, e_iload_n2, e_ireturn, e_istore_n1i, e_istore_n1n, e_istore_n1r, e_istore_n2i, e_istore_n2n, e_istore_n2r, ea_13, ea_19, ea_24, el_13, el_19, el_24, gf_X2_9_12, gf_X2_9_18, gf_X2_9_23, j_goto_25_m21, j_ic_0, j_icmp_ge_10_18, j_ii_2_1, ab_rn, bi_0, bi_1, ite_not]
      all_goals
      exact h
    · exact h.elim

def s_X2_speedOf : ab_Sem := fun as M Po => match as with
  | [.ref q, .int x] => (q = 12 ∨ q = 18 ∨ q = 23) ∧ Po (some (.int (sp_X (pc_X M x) (kd_X M x) (th_X M q x)))) M
  | _ => False
theorem q_X2_speedOf {q : Nat} {x : Int32} {M : ab_M} {Po : ab_P} : s_X2_speedOf [.ref q, .int x] M Po = ((q = 12 ∨ q = 18 ∨ q = 23) ∧ Po (some (.int (sp_X (pc_X M x) (kd_X M x) (th_X M q x)))) M) := rfl
abbrev x_X2_speedOf : ab_X := (some .int, fl_X2, [(112, 2, s_X7_paceOf), (118, 2, s_X7_kindOf), (124, 2, s_X2_thornsOf), (131, 3, s_X8_speedBy)], kl_X2, gs_X2, ab_ros)
theorem ca_X2_speedOf_56 {v0 v1 : Value} {st : List Value} {M : ab_M} {k : List Value → ab_M → Prop} : ab_ca x_X2_speedOf (2 * 56) (v1 :: v0 :: st) M k = (st.length ≤ 4 ∧ s_X7_paceOf [v0, v1] M (fun r M' => k (r.toList ++ st) M')) := rfl
theorem ca_X2_speedOf_59 {v0 v1 : Value} {st : List Value} {M : ab_M} {k : List Value → ab_M → Prop} : ab_ca x_X2_speedOf (2 * 59) (v1 :: v0 :: st) M k = (st.length ≤ 4 ∧ s_X7_kindOf [v0, v1] M (fun r M' => k (r.toList ++ st) M')) := rfl
theorem ca_X2_speedOf_62 {v0 v1 : Value} {st : List Value} {M : ab_M} {k : List Value → ab_M → Prop} : ab_ca x_X2_speedOf (2 * 62) (v1 :: v0 :: st) M k = (st.length ≤ 4 ∧ s_X2_thornsOf [v0, v1] M (fun r M' => k (r.toList ++ st) M')) := rfl
theorem ca_X2_speedOf_65 {v0 v1 v2 : Value} {st : List Value} {M : ab_M} {k : List Value → ab_M → Prop} : ab_ca x_X2_speedOf (2 * 65 + 1) (v2 :: v1 :: v0 :: st) M k = (st.length ≤ 4 ∧ s_X8_speedBy [v0, v1, v2] M (fun r M' => k (r.toList ++ st) M')) := rfl
theorem r_X2_speedOf : ∀ (as : List Value) (M : ab_M) (Po : ab_P), s_X2_speedOf as M Po → ∃ (q : Nat) (as' : List Value) (ci : Nat) (T : u_T) (N : Nat) (fs : List ab_F), as = .ref q :: as' ∧ ab_sh[q]? = some (.inl (ci, fs)) ∧ vwCl[ci]? = some (yX2_speedOf.cls, T, N) := by
  intro as M Po h
  unfold s_X2_speedOf at h
  split at h
  · first | exact ⟨_, _, 2, _, _, _, rfl, rfl, rfl⟩ | (rcases h.1 with rfl | rfl | rfl <;> exact ⟨_, _, 2, _, _, _, rfl, rfl, rfl⟩)
  · exact h.elim
set_option maxRecDepth 20000 in
set_option maxHeartbeats 4000000 in
theorem c_X2_speedOf {l : Launch} : ab_ctr l yX2_speedOf cX2_speedOf 2 (some .int) 1 24 s_X2_speedOf := by
  refine ab_met x_X2_speedOf (by decide) rfl fo_X2 ko_X2 so_X2 rfl (ab_cs_cons (ab_kV c_X7_paceOf ml_X2_56 v_X7_paceOf ⟨rfl, rfl⟩ r_X7_paceOf) (ab_cs_cons (ab_kV c_X7_kindOf ml_X2_59 v_X7_kindOf ⟨rfl, rfl⟩ r_X7_kindOf) (ab_cs_cons (ab_kV c_X2_thornsOf ml_X2_62 v_X2_thornsOf ⟨rfl, rfl⟩ r_X2_thornsOf) (ab_cs_cons (ab_kN c_X8_speedBy ml_X2_65 v_X8_speedBy ⟨rfl, rfl⟩) ab_cs_nil)))) ?_ ?_
  · intro as M Po h
    unfold s_X2_speedOf at h
    split at h
    · simp [ab_e0]
    · exact h.elim
  · intro as M Po h G hG
    unfold s_X2_speedOf at h
    split at h
    · simp only [ab_en, ab_e0, List.length_cons, List.length_nil, Nat.reduceAdd, Nat.reduceSub, List.replicate, List.cons_append, List.nil_append]
      obtain ⟨hq, h⟩ := h
      (try simp only [Nat.reduceAdd] at h)
      rcases hq with rfl | rfl | rfl <;> (try simp only [Nat.reduceAdd] at h)
      all_goals refine ab_go hG [] 60 _ _ _ _ ?_
      all_goals simp (decide := true) only [ew_n, ew_0, Option.toList_some, Option.toList_none, List.cons_append, List.nil_append, true_and, and_true, List.length_cons, List.length_nil, Nat.reduceAdd, Nat.reduceLeDiff, Int32.reduceAdd, Int32.reduceSub, Int32.reduceMul, Int32.reduceLT, Int32.reduceLE, Int32.reduceToNatClampNeg, ↓reduceIte, and_self, si_1, si_2, sl_1, sl_2, false_and, and_false, dX2_speedOf_0, dX2_speedOf_1, dX2_speedOf_4, dX2_speedOf_5, dX2_speedOf_8, dX2_speedOf_9, dX2_speedOf_12, dX2_speedOf_13, dX2_speedOf_16, dX2_speedOf_17, dX2_speedOf_18, dX2_speedOf_21, dX2_speedOf_24, ca_X2_speedOf_56, ca_X2_speedOf_59, ca_X2_speedOf_62, ca_X2_speedOf_65, e_aload_n0, e_calls, e_callv, e_getfield, e_iload_n1, e_ireturn, gf_X2_23_12, gf_X2_23_18, gf_X2_23_23, q_X2_thornsOf, q_X7_kindOf, q_X7_paceOf, q_X8_speedBy, ab_rn, bi_0, bi_1, ite_not]
      all_goals
      exact h
    · exact h.elim

def s_X2_canPrick : ab_Sem := fun as M Po => match as with
  | [.ref q, .int x] => (q = 12 ∨ q = 18 ∨ q = 23) ∧ Po (some (.int (if (¬ x < 0 ∧ x < M.1 8 3 ∧ x < 5) ∧ th_X M q x < 9 then 1 else 0))) M
  | _ => False
theorem q_X2_canPrick {q : Nat} {x : Int32} {M : ab_M} {Po : ab_P} : s_X2_canPrick [.ref q, .int x] M Po = ((q = 12 ∨ q = 18 ∨ q = 23) ∧ Po (some (.int (if (¬ x < 0 ∧ x < M.1 8 3 ∧ x < 5) ∧ th_X M q x < 9 then 1 else 0))) M) := rfl
abbrev x_X2_canPrick : ab_X := (some .boolean, fl_X2, [(150, 2, s_X7_has), (124, 2, s_X2_thornsOf)], kl_X2, gs_X2, ab_ros)
theorem ca_X2_canPrick_75 {v0 v1 : Value} {st : List Value} {M : ab_M} {k : List Value → ab_M → Prop} : ab_ca x_X2_canPrick (2 * 75) (v1 :: v0 :: st) M k = (st.length ≤ 4 ∧ s_X7_has [v0, v1] M (fun r M' => k (r.toList ++ st) M')) := rfl
theorem ca_X2_canPrick_62 {v0 v1 : Value} {st : List Value} {M : ab_M} {k : List Value → ab_M → Prop} : ab_ca x_X2_canPrick (2 * 62) (v1 :: v0 :: st) M k = (st.length ≤ 4 ∧ s_X2_thornsOf [v0, v1] M (fun r M' => k (r.toList ++ st) M')) := rfl
theorem r_X2_canPrick : ∀ (as : List Value) (M : ab_M) (Po : ab_P), s_X2_canPrick as M Po → ∃ (q : Nat) (as' : List Value) (ci : Nat) (T : u_T) (N : Nat) (fs : List ab_F), as = .ref q :: as' ∧ ab_sh[q]? = some (.inl (ci, fs)) ∧ vwCl[ci]? = some (yX2_canPrick.cls, T, N) := by
  intro as M Po h
  unfold s_X2_canPrick at h
  split at h
  · first | exact ⟨_, _, 2, _, _, _, rfl, rfl, rfl⟩ | (rcases h.1 with rfl | rfl | rfl <;> exact ⟨_, _, 2, _, _, _, rfl, rfl, rfl⟩)
  · exact h.elim
set_option maxRecDepth 20000 in
set_option maxHeartbeats 4000000 in
theorem c_X2_canPrick {l : Launch} : ab_ctr l yX2_canPrick cX2_canPrick 2 (some .boolean) 1 21 s_X2_canPrick := by
  refine ab_met x_X2_canPrick (by decide) rfl fo_X2 ko_X2 so_X2 rfl (ab_cs_cons (ab_kV c_X7_has ml_X2_75 v_X7_has ⟨rfl, rfl⟩ r_X7_has) (ab_cs_cons (ab_kV c_X2_thornsOf ml_X2_62 v_X2_thornsOf ⟨rfl, rfl⟩ r_X2_thornsOf) ab_cs_nil)) ?_ ?_
  · intro as M Po h
    unfold s_X2_canPrick at h
    split at h
    · simp [ab_e0]
    · exact h.elim
  · intro as M Po h G hG
    unfold s_X2_canPrick at h
    split at h
    · simp only [ab_en, ab_e0, List.length_cons, List.length_nil, Nat.reduceAdd, Nat.reduceSub, List.replicate, List.cons_append, List.nil_append]
      obtain ⟨hq, h⟩ := h
      (try simp only [Nat.reduceAdd] at h)
      rcases hq with rfl | rfl | rfl <;> (try simp only [Nat.reduceAdd] at h)
      all_goals refine ab_go hG [] 60 _ _ _ _ ?_
      all_goals simp (decide := true) only [ew_n, ew_0, Option.toList_some, Option.toList_none, List.cons_append, List.nil_append, true_and, and_true, List.length_cons, List.length_nil, Nat.reduceAdd, Nat.reduceLeDiff, Int32.reduceAdd, Int32.reduceSub, Int32.reduceMul, Int32.reduceLT, Int32.reduceLE, Int32.reduceToNatClampNeg, ↓reduceIte, and_self, si_1, si_2, sl_1, sl_2, false_and, and_false, dX2_canPrick_0, dX2_canPrick_1, dX2_canPrick_4, dX2_canPrick_5, dX2_canPrick_8, dX2_canPrick_11, dX2_canPrick_12, dX2_canPrick_13, dX2_canPrick_16, dX2_canPrick_18, dX2_canPrick_21, dX2_canPrick_22, dX2_canPrick_25, dX2_canPrick_26, ca_X2_canPrick_62, ca_X2_canPrick_75, e_aload_n0, e_callv, e_getfield, e_iload_n1, e_ireturn, gf_X2_23_12, gf_X2_23_18, gf_X2_23_23, j_bp_9, j_goto_22_4, j_ic_0, j_ic_1, j_icmp_ge_18_7, j_if_eq_8_17, q_X2_thornsOf, q_X7_has, ab_rn, bi_0, bi_1, ite_not]
      all_goals
        (repeat' split) <;> (try simp (decide := true) only [i0_le, *, not_false_eq_true, not_true_eq_false, and_self, true_and, and_true, or_false, false_or, or_true, true_or, false_and, and_false, not_and, ↓reduceIte] at h) <;> (try simp (decide := true) only [i0_le, *, not_false_eq_true, not_true_eq_false, and_self, true_and, and_true, or_false, false_or, or_true, true_or, false_and, and_false, not_and, ↓reduceIte]) <;> first | done | exact h | (exfalso; simp_all (decide := true) only [not_true_eq_false, not_false_eq_true, false_and, and_false, true_and, and_true]; done)
    · exact h.elim

def s_X2_canEase : ab_Sem := fun as M Po => match as with
  | [.ref q, .int x] => (q = 12 ∨ q = 18 ∨ q = 23) ∧ Po (some (.int (if (¬ x < 0 ∧ x < M.1 8 3 ∧ x < 5) ∧ 0 < th_X M q x then 1 else 0))) M
  | _ => False
theorem q_X2_canEase {q : Nat} {x : Int32} {M : ab_M} {Po : ab_P} : s_X2_canEase [.ref q, .int x] M Po = ((q = 12 ∨ q = 18 ∨ q = 23) ∧ Po (some (.int (if (¬ x < 0 ∧ x < M.1 8 3 ∧ x < 5) ∧ 0 < th_X M q x then 1 else 0))) M) := rfl
abbrev x_X2_canEase : ab_X := (some .boolean, fl_X2, [(150, 2, s_X7_has), (124, 2, s_X2_thornsOf)], kl_X2, gs_X2, ab_ros)
theorem ca_X2_canEase_75 {v0 v1 : Value} {st : List Value} {M : ab_M} {k : List Value → ab_M → Prop} : ab_ca x_X2_canEase (2 * 75) (v1 :: v0 :: st) M k = (st.length ≤ 4 ∧ s_X7_has [v0, v1] M (fun r M' => k (r.toList ++ st) M')) := rfl
theorem ca_X2_canEase_62 {v0 v1 : Value} {st : List Value} {M : ab_M} {k : List Value → ab_M → Prop} : ab_ca x_X2_canEase (2 * 62) (v1 :: v0 :: st) M k = (st.length ≤ 4 ∧ s_X2_thornsOf [v0, v1] M (fun r M' => k (r.toList ++ st) M')) := rfl
theorem r_X2_canEase : ∀ (as : List Value) (M : ab_M) (Po : ab_P), s_X2_canEase as M Po → ∃ (q : Nat) (as' : List Value) (ci : Nat) (T : u_T) (N : Nat) (fs : List ab_F), as = .ref q :: as' ∧ ab_sh[q]? = some (.inl (ci, fs)) ∧ vwCl[ci]? = some (yX2_canEase.cls, T, N) := by
  intro as M Po h
  unfold s_X2_canEase at h
  split at h
  · first | exact ⟨_, _, 2, _, _, _, rfl, rfl, rfl⟩ | (rcases h.1 with rfl | rfl | rfl <;> exact ⟨_, _, 2, _, _, _, rfl, rfl, rfl⟩)
  · exact h.elim
set_option maxRecDepth 20000 in
set_option maxHeartbeats 4000000 in
theorem c_X2_canEase {l : Launch} : ab_ctr l yX2_canEase cX2_canEase 2 (some .boolean) 1 21 s_X2_canEase := by
  refine ab_met x_X2_canEase (by decide) rfl fo_X2 ko_X2 so_X2 rfl (ab_cs_cons (ab_kV c_X7_has ml_X2_75 v_X7_has ⟨rfl, rfl⟩ r_X7_has) (ab_cs_cons (ab_kV c_X2_thornsOf ml_X2_62 v_X2_thornsOf ⟨rfl, rfl⟩ r_X2_thornsOf) ab_cs_nil)) ?_ ?_
  · intro as M Po h
    unfold s_X2_canEase at h
    split at h
    · simp [ab_e0]
    · exact h.elim
  · intro as M Po h G hG
    unfold s_X2_canEase at h
    split at h
    · simp only [ab_en, ab_e0, List.length_cons, List.length_nil, Nat.reduceAdd, Nat.reduceSub, List.replicate, List.cons_append, List.nil_append]
      obtain ⟨hq, h⟩ := h
      (try simp only [Nat.reduceAdd] at h)
      rcases hq with rfl | rfl | rfl <;> (try simp only [Nat.reduceAdd] at h)
      all_goals refine ab_go hG [] 60 _ _ _ _ ?_
      all_goals simp (decide := true) only [ew_n, ew_0, Option.toList_some, Option.toList_none, List.cons_append, List.nil_append, true_and, and_true, List.length_cons, List.length_nil, Nat.reduceAdd, Nat.reduceLeDiff, Int32.reduceAdd, Int32.reduceSub, Int32.reduceMul, Int32.reduceLT, Int32.reduceLE, Int32.reduceToNatClampNeg, ↓reduceIte, and_self, si_1, si_2, sl_1, sl_2, false_and, and_false, dX2_canEase_0, dX2_canEase_1, dX2_canEase_4, dX2_canEase_5, dX2_canEase_8, dX2_canEase_11, dX2_canEase_12, dX2_canEase_13, dX2_canEase_16, dX2_canEase_19, dX2_canEase_20, dX2_canEase_23, dX2_canEase_24, ca_X2_canEase_62, ca_X2_canEase_75, e_aload_n0, e_callv, e_getfield, e_iload_n1, e_ireturn, gf_X2_23_12, gf_X2_23_18, gf_X2_23_23, j_goto_20_4, j_ic_0, j_ic_1, j_if_eq_8_15, j_if_le_16_7, q_X2_thornsOf, q_X7_has, ab_rn, bi_0, bi_1, ite_not]
      all_goals
        (repeat' split) <;> (try simp (decide := true) only [i0_le, *, not_false_eq_true, not_true_eq_false, and_self, true_and, and_true, or_false, false_or, or_true, true_or, false_and, and_false, not_and, ↓reduceIte] at h) <;> (try simp (decide := true) only [i0_le, *, not_false_eq_true, not_true_eq_false, and_self, true_and, and_true, or_false, false_or, or_true, true_or, false_and, and_false, not_and, ↓reduceIte]) <;> first | done | exact h | (exfalso; simp_all (decide := true) only [not_true_eq_false, not_false_eq_true, false_and, and_false, true_and, and_true]; done)
    · exact h.elim

def s_X2_prick : ab_Sem := fun as M Po => match as with
  | [.ref q, .int x] => (q = 12 ∨ q = 18 ∨ q = 23) ∧ Po none (if (¬ x < 0 ∧ x < M.1 8 3 ∧ x < 5) ∧ M.1 (q + 1) x.toNatClampNeg < 9 then ab_si M (q + 1) x.toNatClampNeg (M.1 (q + 1) x.toNatClampNeg + 1) else M)
  | _ => False
theorem q_X2_prick {q : Nat} {x : Int32} {M : ab_M} {Po : ab_P} : s_X2_prick [.ref q, .int x] M Po = ((q = 12 ∨ q = 18 ∨ q = 23) ∧ Po none (if (¬ x < 0 ∧ x < M.1 8 3 ∧ x < 5) ∧ M.1 (q + 1) x.toNatClampNeg < 9 then ab_si M (q + 1) x.toNatClampNeg (M.1 (q + 1) x.toNatClampNeg + 1) else M)) := rfl
abbrev x_X2_prick : ab_X := (none, fl_X2, [(150, 2, s_X7_has)], kl_X2, gs_X2, ab_ros)
theorem ca_X2_prick_75 {v0 v1 : Value} {st : List Value} {M : ab_M} {k : List Value → ab_M → Prop} : ab_ca x_X2_prick (2 * 75) (v1 :: v0 :: st) M k = (st.length ≤ 4 ∧ s_X7_has [v0, v1] M (fun r M' => k (r.toList ++ st) M')) := rfl
theorem r_X2_prick : ∀ (as : List Value) (M : ab_M) (Po : ab_P), s_X2_prick as M Po → ∃ (q : Nat) (as' : List Value) (ci : Nat) (T : u_T) (N : Nat) (fs : List ab_F), as = .ref q :: as' ∧ ab_sh[q]? = some (.inl (ci, fs)) ∧ vwCl[ci]? = some (yX2_prick.cls, T, N) := by
  intro as M Po h
  unfold s_X2_prick at h
  split at h
  · first | exact ⟨_, _, 2, _, _, _, rfl, rfl, rfl⟩ | (rcases h.1 with rfl | rfl | rfl <;> exact ⟨_, _, 2, _, _, _, rfl, rfl, rfl⟩)
  · exact h.elim
set_option maxRecDepth 20000 in
set_option maxHeartbeats 4000000 in
theorem c_X2_prick {l : Launch} : ab_ctr l yX2_prick cX2_prick 2 none 1 21 s_X2_prick := by
  refine ab_met x_X2_prick (by decide) rfl fo_X2 ko_X2 so_X2 rfl (ab_cs_cons (ab_kV c_X7_has ml_X2_75 v_X7_has ⟨rfl, rfl⟩ r_X7_has) ab_cs_nil) ?_ ?_
  · intro as M Po h
    unfold s_X2_prick at h
    split at h
    · simp [ab_e0]
    · exact h.elim
  · intro as M Po h G hG
    unfold s_X2_prick at h
    split at h
    · simp only [ab_en, ab_e0, List.length_cons, List.length_nil, Nat.reduceAdd, Nat.reduceSub, List.replicate, List.cons_append, List.nil_append]
      obtain ⟨hq, h⟩ := h
      (try simp only [Nat.reduceAdd] at h)
      rcases hq with rfl | rfl | rfl <;> (try simp only [Nat.reduceAdd] at h)
      all_goals refine ab_go hG [] 60 _ _ _ _ ?_
      all_goals simp (decide := true) only [ew_n, ew_0, Option.toList_some, Option.toList_none, List.cons_append, List.nil_append, true_and, and_true, List.length_cons, List.length_nil, Nat.reduceAdd, Nat.reduceLeDiff, Int32.reduceAdd, Int32.reduceSub, Int32.reduceMul, Int32.reduceLT, Int32.reduceLE, Int32.reduceToNatClampNeg, ↓reduceIte, and_self, si_1, si_2, sl_1, sl_2, false_and, and_false, dX2_prick_0, dX2_prick_1, dX2_prick_4, dX2_prick_5, dX2_prick_8, dX2_prick_11, dX2_prick_12, dX2_prick_15, dX2_prick_16, dX2_prick_17, dX2_prick_20, dX2_prick_21, dX2_prick_24, dX2_prick_25, dX2_prick_28, dX2_prick_29, dX2_prick_30, dX2_prick_32, dX2_prick_35, dX2_prick_36, dX2_prick_39, dX2_prick_40, dX2_prick_41, dX2_prick_42, dX2_prick_43, dX2_prick_44, dX2_prick_45, ca_X2_prick_75, e_alen, e_aload_n0, e_callv, e_dup2, e_getfield, e_iadd, e_iaload, e_iastore, e_iload_n1, e_return, ea_13, ea_19, ea_24, el_13, el_19, el_24, es_13, es_19, es_24, gf_X2_23_12, gf_X2_23_18, gf_X2_23_23, gf_X2_9_12, gf_X2_9_18, gf_X2_9_23, j_bp_9, j_ic_1, j_icmp_ge_21_24, j_icmp_ge_32_13, j_if_eq_8_37, j_if_lt_12_33, q_X7_has, ab_rn, bi_0, bi_1, ite_not]
      all_goals
        (repeat' split) <;> (try simp (decide := true) only [i0_le, *, not_false_eq_true, not_true_eq_false, and_self, true_and, and_true, or_false, false_or, or_true, true_or, false_and, and_false, not_and, ↓reduceIte] at h) <;> (try simp (decide := true) only [i0_le, *, not_false_eq_true, not_true_eq_false, and_self, true_and, and_true, or_false, false_or, or_true, true_or, false_and, and_false, not_and, ↓reduceIte]) <;> first | done | exact h | (exfalso; simp_all (decide := true) only [not_true_eq_false, not_false_eq_true, false_and, and_false, true_and, and_true]; done)
    · exact h.elim

def s_X2_ease : ab_Sem := fun as M Po => match as with
  | [.ref q, .int x] => (q = 12 ∨ q = 18 ∨ q = 23) ∧ Po none (if (¬ x < 0 ∧ x < M.1 8 3 ∧ x < 5) ∧ 0 < M.1 (q + 1) x.toNatClampNeg then ab_si M (q + 1) x.toNatClampNeg (M.1 (q + 1) x.toNatClampNeg - 1) else M)
  | _ => False
theorem q_X2_ease {q : Nat} {x : Int32} {M : ab_M} {Po : ab_P} : s_X2_ease [.ref q, .int x] M Po = ((q = 12 ∨ q = 18 ∨ q = 23) ∧ Po none (if (¬ x < 0 ∧ x < M.1 8 3 ∧ x < 5) ∧ 0 < M.1 (q + 1) x.toNatClampNeg then ab_si M (q + 1) x.toNatClampNeg (M.1 (q + 1) x.toNatClampNeg - 1) else M)) := rfl
abbrev x_X2_ease : ab_X := (none, fl_X2, [(150, 2, s_X7_has)], kl_X2, gs_X2, ab_ros)
theorem ca_X2_ease_75 {v0 v1 : Value} {st : List Value} {M : ab_M} {k : List Value → ab_M → Prop} : ab_ca x_X2_ease (2 * 75) (v1 :: v0 :: st) M k = (st.length ≤ 4 ∧ s_X7_has [v0, v1] M (fun r M' => k (r.toList ++ st) M')) := rfl
theorem r_X2_ease : ∀ (as : List Value) (M : ab_M) (Po : ab_P), s_X2_ease as M Po → ∃ (q : Nat) (as' : List Value) (ci : Nat) (T : u_T) (N : Nat) (fs : List ab_F), as = .ref q :: as' ∧ ab_sh[q]? = some (.inl (ci, fs)) ∧ vwCl[ci]? = some (yX2_ease.cls, T, N) := by
  intro as M Po h
  unfold s_X2_ease at h
  split at h
  · first | exact ⟨_, _, 2, _, _, _, rfl, rfl, rfl⟩ | (rcases h.1 with rfl | rfl | rfl <;> exact ⟨_, _, 2, _, _, _, rfl, rfl, rfl⟩)
  · exact h.elim
set_option maxRecDepth 20000 in
set_option maxHeartbeats 4000000 in
theorem c_X2_ease {l : Launch} : ab_ctr l yX2_ease cX2_ease 2 none 1 21 s_X2_ease := by
  refine ab_met x_X2_ease (by decide) rfl fo_X2 ko_X2 so_X2 rfl (ab_cs_cons (ab_kV c_X7_has ml_X2_75 v_X7_has ⟨rfl, rfl⟩ r_X7_has) ab_cs_nil) ?_ ?_
  · intro as M Po h
    unfold s_X2_ease at h
    split at h
    · simp [ab_e0]
    · exact h.elim
  · intro as M Po h G hG
    unfold s_X2_ease at h
    split at h
    · simp only [ab_en, ab_e0, List.length_cons, List.length_nil, Nat.reduceAdd, Nat.reduceSub, List.replicate, List.cons_append, List.nil_append]
      obtain ⟨hq, h⟩ := h
      (try simp only [Nat.reduceAdd] at h)
      rcases hq with rfl | rfl | rfl <;> (try simp only [Nat.reduceAdd] at h)
      all_goals refine ab_go hG [] 60 _ _ _ _ ?_
      all_goals simp (decide := true) only [ew_n, ew_0, Option.toList_some, Option.toList_none, List.cons_append, List.nil_append, true_and, and_true, List.length_cons, List.length_nil, Nat.reduceAdd, Nat.reduceLeDiff, Int32.reduceAdd, Int32.reduceSub, Int32.reduceMul, Int32.reduceLT, Int32.reduceLE, Int32.reduceToNatClampNeg, ↓reduceIte, and_self, si_1, si_2, sl_1, sl_2, false_and, and_false, dX2_ease_0, dX2_ease_1, dX2_ease_4, dX2_ease_5, dX2_ease_8, dX2_ease_11, dX2_ease_12, dX2_ease_15, dX2_ease_16, dX2_ease_17, dX2_ease_20, dX2_ease_21, dX2_ease_24, dX2_ease_25, dX2_ease_28, dX2_ease_29, dX2_ease_30, dX2_ease_33, dX2_ease_34, dX2_ease_37, dX2_ease_38, dX2_ease_39, dX2_ease_40, dX2_ease_41, dX2_ease_42, dX2_ease_43, ca_X2_ease_75, e_alen, e_aload_n0, e_callv, e_dup2, e_getfield, e_iaload, e_iastore, e_iload_n1, e_isub, e_return, ea_13, ea_19, ea_24, el_13, el_19, el_24, es_13, es_19, es_24, gf_X2_23_12, gf_X2_23_18, gf_X2_23_23, gf_X2_9_12, gf_X2_9_18, gf_X2_9_23, j_ic_1, j_icmp_ge_21_22, j_if_eq_8_35, j_if_le_30_13, j_if_lt_12_31, q_X7_has, ab_rn, bi_0, bi_1, ite_not]
      all_goals
        (repeat' split) <;> (try simp (decide := true) only [i0_le, *, not_false_eq_true, not_true_eq_false, and_self, true_and, and_true, or_false, false_or, or_true, true_or, false_and, and_false, not_and, ↓reduceIte] at h) <;> (try simp (decide := true) only [i0_le, *, not_false_eq_true, not_true_eq_false, and_self, true_and, and_true, or_false, false_or, or_true, true_or, false_and, and_false, not_and, ↓reduceIte]) <;> first | done | exact h | (exfalso; simp_all (decide := true) only [not_true_eq_false, not_false_eq_true, false_and, and_false, true_and, and_true]; done)
    · exact h.elim

def mo_X (g v : Int32) : Int32 := if g = 1 then (if 1 < v / 2 then v / 2 else 1) else if g = 2 then 1 else v
def s_X2_milesOver : ab_Sem := fun as M Po => match as with
  | [.int g, .int v] => Po (some (.int (mo_X g v))) M
  | _ => False
theorem q_X2_milesOver {g v : Int32} {M : ab_M} {Po : ab_P} : s_X2_milesOver [.int g, .int v] M Po = (Po (some (.int (mo_X g v))) M) := rfl
abbrev x_X2_milesOver : ab_X := (some .int, fl_X2, [(217, 2, s_J9_max_7cf53)], kl_X2, gs_X2, ab_ros)
theorem ca_X2_milesOver_108 {v0 v1 : Value} {st : List Value} {M : ab_M} {k : List Value → ab_M → Prop} : ab_ca x_X2_milesOver (2 * 108 + 1) (v1 :: v0 :: st) M k = (st.length ≤ 4 ∧ s_J9_max_7cf53 [v0, v1] M (fun r M' => k (r.toList ++ st) M')) := rfl
set_option maxRecDepth 20000 in
set_option maxHeartbeats 4000000 in
theorem c_X2_milesOver {l : Launch} : ab_ctr l yX2_milesOver cX2_milesOver 2 (some .int) 1 21 s_X2_milesOver := by
  refine ab_met x_X2_milesOver (by decide) rfl fo_X2 ko_X2 so_X2 rfl (ab_cs_cons (ab_kmax ml_X2_108 (by decide) (by decide)) ab_cs_nil) ?_ ?_
  · intro as M Po h
    unfold s_X2_milesOver at h
    split at h
    · simp [ab_e0]
    · exact h.elim
  · intro as M Po h G hG
    unfold s_X2_milesOver at h
    split at h
    · refine ab_go hG [] 60 _ _ _ _ ?_
      simp only [ab_en, ab_e0, List.length_cons, List.length_nil, Nat.reduceAdd, Nat.reduceSub, List.replicate, List.cons_append, List.nil_append]
      simp (decide := true) only [ew_n, ew_0, Option.toList_some, Option.toList_none, List.cons_append, List.nil_append, true_and, and_true, List.length_cons, List.length_nil, Nat.reduceAdd, Nat.reduceLeDiff, Int32.reduceAdd, Int32.reduceSub, Int32.reduceMul, Int32.reduceLT, Int32.reduceLE, Int32.reduceToNatClampNeg, ↓reduceIte, and_self, si_1, si_2, sl_1, sl_2, false_and, and_false, dX2_milesOver_0, dX2_milesOver_1, dX2_milesOver_2, dX2_milesOver_5, dX2_milesOver_6, dX2_milesOver_7, dX2_milesOver_8, dX2_milesOver_9, dX2_milesOver_12, dX2_milesOver_13, dX2_milesOver_14, dX2_milesOver_15, dX2_milesOver_18, dX2_milesOver_19, dX2_milesOver_22, dX2_milesOver_23, ca_X2_milesOver_108, e_calls, e_idiv, e_iload_n0, e_iload_n1, e_ireturn, j_goto_19_4, j_ic_1, j_ic_2, j_icmp_ne_15_7, j_icmp_ne_2_11, q_J9_max_7cf53, ab_rn, bi_0, bi_1, ite_not]
      (repeat' split) <;> (try simp (decide := true) only [mo_X, i0_le, *, not_false_eq_true, not_true_eq_false, and_self, true_and, and_true, or_false, false_or, or_true, true_or, false_and, and_false, not_and, ↓reduceIte] at h) <;> (try simp (decide := true) only [i0_le, *, not_false_eq_true, not_true_eq_false, and_self, true_and, and_true, or_false, false_or, or_true, true_or, false_and, and_false, not_and, ↓reduceIte]) <;> first | done | exact h | (exfalso; simp_all (decide := true) only [not_true_eq_false, not_false_eq_true, false_and, and_false, true_and, and_true]; done)
    · exact h.elim

