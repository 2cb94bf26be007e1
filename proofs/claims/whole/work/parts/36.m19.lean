/-! METHODS: LameLead, second half -/
theorem lg_lt (u v : Int64) : (lg_cmp u v < 0) = (u < v) := by
  unfold lg_cmp
  apply propext
  by_cases h1 : u > v
  · rw [if_pos h1]
    have h3 := Int64.lt_iff_toInt_lt.mp h1
    exact ⟨fun h => absurd h (by decide), fun h => by have h4 := Int64.lt_iff_toInt_lt.mp h; omega⟩
  · rw [if_neg h1]
    by_cases h2 : u = v
    · rw [if_pos h2]
      exact ⟨fun h => absurd h (by decide), fun h => by have h4 := Int64.lt_iff_toInt_lt.mp h; rw [h2] at h4; omega⟩
    · rw [if_neg h2]
      refine ⟨fun _ => ?_, fun _ => by decide⟩
      rw [Int64.lt_iff_toInt_lt]
      have h3 : ¬ v.toInt < u.toInt := fun h => h1 (Int64.lt_iff_toInt_lt.mpr h)
      have h4 : ¬ u.toInt = v.toInt := fun h => h2 (Int64.toInt_inj.mp h)
      omega
theorem lg_eq (u v : Int64) : (lg_cmp u v = 0) = (u = v) := by
  unfold lg_cmp
  apply propext
  by_cases h1 : u > v
  · rw [if_pos h1]
    have h3 := Int64.lt_iff_toInt_lt.mp h1
    exact ⟨fun h => absurd h (by decide), fun h => by rw [h] at h3; omega⟩
  · rw [if_neg h1]
    by_cases h2 : u = v
    · rw [if_pos h2]
      exact ⟨fun _ => h2, fun _ => rfl⟩
    · rw [if_neg h2]
      exact ⟨fun h => absurd h (by decide), fun h => absurd h h2⟩
def s_X8_later : ab_Sem := fun as M Po => match as with
  | [.ref 0, .int x, .int y] => if x < 0 then Po (some (.int (-2))) M else if 40 < x then Po (some (.int (-2))) M else if y = 0 ∨ y = 1 then (if y = 0 then (∀ s : mr_T, Po (some (.int ((its_X M x.toNatClampNeg (nw_X M)).1))) (mws M 18 s)) else (∀ s : mr_T, Po (some (.int (ld_X M (its_X M x.toNatClampNeg (nw_X M)).2.2.1 (its_X M x.toNatClampNeg (nw_X M)).2.2.2))) (mws M 18 s))) else Po (some (.int (-2))) M
  | _ => False
theorem q_X8_later {x y : Int32} {M : ab_M} {Po : ab_P} : s_X8_later [.ref 0, .int x, .int y] M Po = (if x < 0 then Po (some (.int (-2))) M else if 40 < x then Po (some (.int (-2))) M else if y = 0 ∨ y = 1 then (if y = 0 then (∀ s : mr_T, Po (some (.int ((its_X M x.toNatClampNeg (nw_X M)).1))) (mws M 18 s)) else (∀ s : mr_T, Po (some (.int (ld_X M (its_X M x.toNatClampNeg (nw_X M)).2.2.1 (its_X M x.toNatClampNeg (nw_X M)).2.2.2))) (mws M 18 s))) else Po (some (.int (-2))) M) := rfl
abbrev x_X8_later : ab_X := (some .int, fl_X8, [(377, 1, s_X8_isChoice), (382, 2, s_X3_mileIn), (388, 2, s_X3_leaderIn)], kl_X8, gs_X8, ab_ros)
theorem ca_X8_later_188 {v0 : Value} {st : List Value} {M : ab_M} {k : List Value → ab_M → Prop} : ab_ca x_X8_later (2 * 188 + 1) (v0 :: st) M k = (st.length ≤ 4 ∧ s_X8_isChoice [v0] M (fun r M' => k (r.toList ++ st) M')) := rfl
theorem ca_X8_later_191 {v0 v1 : Value} {st : List Value} {M : ab_M} {k : List Value → ab_M → Prop} : ab_ca x_X8_later (2 * 191) (v1 :: v0 :: st) M k = (st.length ≤ 4 ∧ s_X3_mileIn [v0, v1] M (fun r M' => k (r.toList ++ st) M')) := rfl
theorem ca_X8_later_194 {v0 v1 : Value} {st : List Value} {M : ab_M} {k : List Value → ab_M → Prop} : ab_ca x_X8_later (2 * 194) (v1 :: v0 :: st) M k = (st.length ≤ 4 ∧ s_X3_leaderIn [v0, v1] M (fun r M' => k (r.toList ++ st) M')) := rfl
theorem r_X8_later : ∀ (as : List Value) (M : ab_M) (Po : ab_P), s_X8_later as M Po → ∃ (q : Nat) (as' : List Value) (ci : Nat) (T : u_T) (N : Nat) (fs : List ab_F), as = .ref q :: as' ∧ ab_sh[q]? = some (.inl (ci, fs)) ∧ vwCl[ci]? = some (yX8_later.cls, T, N) := by
  intro as M Po h
  unfold s_X8_later at h
  split at h
  · first | exact ⟨_, _, 8, _, _, _, rfl, rfl, rfl⟩ | (rcases h.1 with rfl | rfl | rfl <;> exact ⟨_, _, 8, _, _, _, rfl, rfl, rfl⟩)
  · exact h.elim
set_option maxRecDepth 20000 in
set_option maxHeartbeats 4000000 in
theorem c_X8_later {l : Launch} : ab_ctr l yX8_later cX8_later 3 (some .int) 5 115 s_X8_later := by
  refine ab_met x_X8_later (by decide) rfl fo_X8 ko_X8 so_X8 rfl (ab_cs_cons (ab_kS c_X8_isChoice ml_X8_188 v_X8_isChoice ⟨rfl, rfl⟩) (ab_cs_cons (ab_kV c_X3_mileIn ml_X8_191 v_X3_mileIn ⟨rfl, rfl⟩ r_X3_mileIn) (ab_cs_cons (ab_kV c_X3_leaderIn ml_X8_194 v_X3_leaderIn ⟨rfl, rfl⟩ r_X3_leaderIn) ab_cs_nil))) ?_ ?_
  · intro as M Po h
    unfold s_X8_later at h
    split at h
    · simp [ab_e0]
    · exact h.elim
  · intro as M Po h G hG
    unfold s_X8_later at h
    split at h
    · simp only [ab_en, ab_e0, List.length_cons, List.length_nil, Nat.reduceAdd, Nat.reduceSub, List.replicate, List.cons_append, List.nil_append]
      refine ab_go hG [] 80 _ _ _ _ ?_
      simp (decide := true) only [ew_n, ew_0, Option.toList_some, Option.toList_none, List.cons_append, List.nil_append, true_and, and_true, List.length_cons, List.length_nil, Nat.reduceAdd, Nat.reduceLeDiff, Int32.reduceAdd, Int32.reduceSub, Int32.reduceMul, Int32.reduceLT, Int32.reduceLE, Int32.reduceToNatClampNeg, ↓reduceIte, and_self, si_1, si_2, sl_1, sl_2, false_and, and_false, dX8_later_0, dX8_later_1, dX8_later_4, dX8_later_5, dX8_later_7, dX8_later_10, dX8_later_11, dX8_later_14, dX8_later_17, dX8_later_19, dX8_later_20, dX8_later_21, dX8_later_24, dX8_later_25, dX8_later_28, dX8_later_29, dX8_later_32, dX8_later_35, dX8_later_36, dX8_later_39, dX8_later_40, dX8_later_43, ca_X8_later_188, ca_X8_later_191, ca_X8_later_194, e_aload_n0, e_calls, e_callv, e_getfield, e_iload_n1, e_iload_n2, e_ireturn, gf_X8_51_0, j_bp_40, j_bp_m2, j_goto_32_11, j_icmp_gt_7_10, j_if_lt_1_16, j_if_ne_14_6, j_if_ne_21_14, q_X3_leaderIn, q_X3_mileIn, q_X8_isChoice, ab_rn, bi_0, bi_1, ite_not]
      (first | exact h | (split <;> (rename_i hh; first | rw [if_pos hh] at h | rw [if_neg hh] at h) <;> (first | exact h | (split <;> (rename_i hh; first | rw [if_pos hh] at h | rw [if_neg hh] at h) <;> (first | exact h | (split <;> (rename_i hh; first | rw [if_pos hh] at h | rw [if_neg hh] at h) <;> (first | exact h | (split <;> (rename_i hh; first | rw [if_pos hh] at h | rw [if_neg hh] at h) <;> (first | exact h | (split <;> (rename_i hh; first | rw [if_pos hh] at h | rw [if_neg hh] at h) <;> (first | exact h | (split <;> (rename_i hh; first | rw [if_pos hh] at h | rw [if_neg hh] at h) <;> (first | exact h | (split <;> (rename_i hh; first | rw [if_pos hh] at h | rw [if_neg hh] at h) <;> (first | exact h | (split <;> (rename_i hh; first | rw [if_pos hh] at h | rw [if_neg hh] at h) <;> (first | exact h | (split <;> (rename_i hh; first | rw [if_pos hh] at h | rw [if_neg hh] at h) <;> exact h))))))))))))))))))
    · exact h.elim

def s_X8_comes : ab_Sem := fun as M Po => match as with
  | [.ref 0] => (∀ s : mr_T, Po (some (.int ((ge_X M 60 0 (nw_X M)).1))) (mws M 18 s))
  | _ => False
theorem q_X8_comes {M : ab_M} {Po : ab_P} : s_X8_comes [.ref 0] M Po = ((∀ s : mr_T, Po (some (.int ((ge_X M 60 0 (nw_X M)).1))) (mws M 18 s))) := rfl
abbrev x_X8_comes : ab_X := (some .int, fl_X8, [(394, 1, s_X3_daysToEnd)], kl_X8, gs_X8, ab_ros)
theorem ca_X8_comes_197 {v0 : Value} {st : List Value} {M : ab_M} {k : List Value → ab_M → Prop} : ab_ca x_X8_comes (2 * 197) (v0 :: st) M k = (st.length ≤ 4 ∧ s_X3_daysToEnd [v0] M (fun r M' => k (r.toList ++ st) M')) := rfl
theorem r_X8_comes : ∀ (as : List Value) (M : ab_M) (Po : ab_P), s_X8_comes as M Po → ∃ (q : Nat) (as' : List Value) (ci : Nat) (T : u_T) (N : Nat) (fs : List ab_F), as = .ref q :: as' ∧ ab_sh[q]? = some (.inl (ci, fs)) ∧ vwCl[ci]? = some (yX8_comes.cls, T, N) := by
  intro as M Po h
  unfold s_X8_comes at h
  split at h
  · first | exact ⟨_, _, 8, _, _, _, rfl, rfl, rfl⟩ | (rcases h.1 with rfl | rfl | rfl <;> exact ⟨_, _, 8, _, _, _, rfl, rfl, rfl⟩)
  · exact h.elim
set_option maxRecDepth 20000 in
set_option maxHeartbeats 4000000 in
theorem c_X8_comes {l : Launch} : ab_ctr l yX8_comes cX8_comes 1 (some .int) 5 114 s_X8_comes := by
  refine ab_met x_X8_comes (by decide) rfl fo_X8 ko_X8 so_X8 rfl (ab_cs_cons (ab_kV c_X3_daysToEnd ml_X8_197 v_X3_daysToEnd ⟨rfl, rfl⟩ r_X3_daysToEnd) ab_cs_nil) ?_ ?_
  · intro as M Po h
    unfold s_X8_comes at h
    split at h
    · simp [ab_e0]
    · exact h.elim
  · intro as M Po h G hG
    unfold s_X8_comes at h
    split at h
    · simp only [ab_en, ab_e0, List.length_cons, List.length_nil, Nat.reduceAdd, Nat.reduceSub, List.replicate, List.cons_append, List.nil_append]
      refine ab_go hG [] 80 _ _ _ _ ?_
      simp (decide := true) only [ew_n, ew_0, Option.toList_some, Option.toList_none, List.cons_append, List.nil_append, true_and, and_true, List.length_cons, List.length_nil, Nat.reduceAdd, Nat.reduceLeDiff, Int32.reduceAdd, Int32.reduceSub, Int32.reduceMul, Int32.reduceLT, Int32.reduceLE, Int32.reduceToNatClampNeg, ↓reduceIte, and_self, si_1, si_2, sl_1, sl_2, false_and, and_false, dX8_comes_0, dX8_comes_1, dX8_comes_4, dX8_comes_7, ca_X8_comes_197, e_aload_n0, e_callv, e_getfield, e_ireturn, gf_X8_51_0, q_X3_daysToEnd, ab_rn, bi_0, bi_1, ite_not]
      exact h
    · exact h.elim

def s_X8_leads : ab_Sem := fun as M Po => match as with
  | [.ref 0, .int x] => if ¬ x < 0 ∧ x < M.1 8 3 ∧ x < 5 then (∀ s : mr_T, Po (some (.int (dl_l M x 41 0 (nw_X M)))) (mws M 18 s)) else Po (some (.int (-1))) M
  | _ => False
theorem q_X8_leads {x : Int32} {M : ab_M} {Po : ab_P} : s_X8_leads [.ref 0, .int x] M Po = (if ¬ x < 0 ∧ x < M.1 8 3 ∧ x < 5 then (∀ s : mr_T, Po (some (.int (dl_l M x 41 0 (nw_X M)))) (mws M 18 s)) else Po (some (.int (-1))) M) := rfl
abbrev x_X8_leads : ab_X := (some .int, fl_X8, [(260, 2, s_X7_has), (400, 2, s_X3_daysToLead)], kl_X8, gs_X8, ab_ros)
theorem ca_X8_leads_130 {v0 v1 : Value} {st : List Value} {M : ab_M} {k : List Value → ab_M → Prop} : ab_ca x_X8_leads (2 * 130) (v1 :: v0 :: st) M k = (st.length ≤ 4 ∧ s_X7_has [v0, v1] M (fun r M' => k (r.toList ++ st) M')) := rfl
theorem ca_X8_leads_200 {v0 v1 : Value} {st : List Value} {M : ab_M} {k : List Value → ab_M → Prop} : ab_ca x_X8_leads (2 * 200) (v1 :: v0 :: st) M k = (st.length ≤ 4 ∧ s_X3_daysToLead [v0, v1] M (fun r M' => k (r.toList ++ st) M')) := rfl
theorem r_X8_leads : ∀ (as : List Value) (M : ab_M) (Po : ab_P), s_X8_leads as M Po → ∃ (q : Nat) (as' : List Value) (ci : Nat) (T : u_T) (N : Nat) (fs : List ab_F), as = .ref q :: as' ∧ ab_sh[q]? = some (.inl (ci, fs)) ∧ vwCl[ci]? = some (yX8_leads.cls, T, N) := by
  intro as M Po h
  unfold s_X8_leads at h
  split at h
  · first | exact ⟨_, _, 8, _, _, _, rfl, rfl, rfl⟩ | (rcases h.1 with rfl | rfl | rfl <;> exact ⟨_, _, 8, _, _, _, rfl, rfl, rfl⟩)
  · exact h.elim
set_option maxRecDepth 20000 in
set_option maxHeartbeats 4000000 in
theorem c_X8_leads {l : Launch} : ab_ctr l yX8_leads cX8_leads 2 (some .int) 4 94 s_X8_leads := by
  refine ab_met x_X8_leads (by decide) rfl fo_X8 ko_X8 so_X8 rfl (ab_cs_cons (ab_kV c_X7_has ml_X8_130 v_X7_has ⟨rfl, rfl⟩ r_X7_has) (ab_cs_cons (ab_kV c_X3_daysToLead ml_X8_200 v_X3_daysToLead ⟨rfl, rfl⟩ r_X3_daysToLead) ab_cs_nil)) ?_ ?_
  · intro as M Po h
    unfold s_X8_leads at h
    split at h
    · simp [ab_e0]
    · exact h.elim
  · intro as M Po h G hG
    unfold s_X8_leads at h
    split at h
    · simp only [ab_en, ab_e0, List.length_cons, List.length_nil, Nat.reduceAdd, Nat.reduceSub, List.replicate, List.cons_append, List.nil_append]
      refine ab_go hG [] 80 _ _ _ _ ?_
      simp (decide := true) only [ew_n, ew_0, Option.toList_some, Option.toList_none, List.cons_append, List.nil_append, true_and, and_true, List.length_cons, List.length_nil, Nat.reduceAdd, Nat.reduceLeDiff, Int32.reduceAdd, Int32.reduceSub, Int32.reduceMul, Int32.reduceLT, Int32.reduceLE, Int32.reduceToNatClampNeg, ↓reduceIte, and_self, si_1, si_2, sl_1, sl_2, false_and, and_false, dX8_leads_0, dX8_leads_1, dX8_leads_4, dX8_leads_5, dX8_leads_8, dX8_leads_11, dX8_leads_12, dX8_leads_13, dX8_leads_14, dX8_leads_17, dX8_leads_18, dX8_leads_21, ca_X8_leads_130, ca_X8_leads_200, e_aload_n0, e_callv, e_getfield, e_iload_n1, e_ireturn, gf_X8_26_0, gf_X8_51_0, j_ic_m1, j_if_ne_8_5, q_X3_daysToLead, q_X7_has, ab_rn, bi_0, bi_1, ite_not]
      (first | exact h | (split <;> (rename_i hh; first | rw [if_pos hh] at h | rw [if_neg hh] at h) <;> (first | exact h | (split <;> (rename_i hh; first | rw [if_pos hh] at h | rw [if_neg hh] at h) <;> (first | exact h | (split <;> (rename_i hh; first | rw [if_pos hh] at h | rw [if_neg hh] at h) <;> (first | exact h | (split <;> (rename_i hh; first | rw [if_pos hh] at h | rw [if_neg hh] at h) <;> (first | exact h | (split <;> (rename_i hh; first | rw [if_pos hh] at h | rw [if_neg hh] at h) <;> (first | exact h | (split <;> (rename_i hh; first | rw [if_pos hh] at h | rw [if_neg hh] at h) <;> (first | exact h | (split <;> (rename_i hh; first | rw [if_pos hh] at h | rw [if_neg hh] at h) <;> (first | exact h | (split <;> (rename_i hh; first | rw [if_pos hh] at h | rw [if_neg hh] at h) <;> (first | exact h | (split <;> (rename_i hh; first | rw [if_pos hh] at h | rw [if_neg hh] at h) <;> exact h))))))))))))))))))
    · exact h.elim

def s_X8_cure : ab_Sem := fun as M Po => match as with
  | [.ref 0, .int y] => if y = 0 ∨ y = 1 then (if y = 0 then (∀ s : mr_T, Po (some (.int ((cu_l M 60 (nc_X M) 0 (-9) (-9)).1))) (mws M 18 s)) else (∀ s : mr_T, Po (some (.int ((cu_l M 60 (nc_X M) 0 (-9) (-9)).2))) (mws M 18 s))) else Po (some (.int (-2))) M
  | _ => False
theorem q_X8_cure {y : Int32} {M : ab_M} {Po : ab_P} : s_X8_cure [.ref 0, .int y] M Po = (if y = 0 ∨ y = 1 then (if y = 0 then (∀ s : mr_T, Po (some (.int ((cu_l M 60 (nc_X M) 0 (-9) (-9)).1))) (mws M 18 s)) else (∀ s : mr_T, Po (some (.int ((cu_l M 60 (nc_X M) 0 (-9) (-9)).2))) (mws M 18 s))) else Po (some (.int (-2))) M) := rfl
abbrev x_X8_cure : ab_X := (some .int, fl_X8, [(377, 1, s_X8_isChoice), (406, 2, s_X3_bestCure)], kl_X8, gs_X8, ab_ros)
theorem ca_X8_cure_188 {v0 : Value} {st : List Value} {M : ab_M} {k : List Value → ab_M → Prop} : ab_ca x_X8_cure (2 * 188 + 1) (v0 :: st) M k = (st.length ≤ 4 ∧ s_X8_isChoice [v0] M (fun r M' => k (r.toList ++ st) M')) := rfl
theorem ca_X8_cure_203 {v0 v1 : Value} {st : List Value} {M : ab_M} {k : List Value → ab_M → Prop} : ab_ca x_X8_cure (2 * 203) (v1 :: v0 :: st) M k = (st.length ≤ 4 ∧ s_X3_bestCure [v0, v1] M (fun r M' => k (r.toList ++ st) M')) := rfl
theorem r_X8_cure : ∀ (as : List Value) (M : ab_M) (Po : ab_P), s_X8_cure as M Po → ∃ (q : Nat) (as' : List Value) (ci : Nat) (T : u_T) (N : Nat) (fs : List ab_F), as = .ref q :: as' ∧ ab_sh[q]? = some (.inl (ci, fs)) ∧ vwCl[ci]? = some (yX8_cure.cls, T, N) := by
  intro as M Po h
  unfold s_X8_cure at h
  split at h
  · first | exact ⟨_, _, 8, _, _, _, rfl, rfl, rfl⟩ | (rcases h.1 with rfl | rfl | rfl <;> exact ⟨_, _, 8, _, _, _, rfl, rfl, rfl⟩)
  · exact h.elim
set_option maxRecDepth 20000 in
set_option maxHeartbeats 4000000 in
theorem c_X8_cure {l : Launch} : ab_ctr l yX8_cure cX8_cure 2 (some .int) 6 140 s_X8_cure := by
  refine ab_met x_X8_cure (by decide) rfl fo_X8 ko_X8 so_X8 rfl (ab_cs_cons (ab_kS c_X8_isChoice ml_X8_188 v_X8_isChoice ⟨rfl, rfl⟩) (ab_cs_cons (ab_kV c_X3_bestCure ml_X8_203 v_X3_bestCure ⟨rfl, rfl⟩ r_X3_bestCure) ab_cs_nil)) ?_ ?_
  · intro as M Po h
    unfold s_X8_cure at h
    split at h
    · simp [ab_e0]
    · exact h.elim
  · intro as M Po h G hG
    unfold s_X8_cure at h
    split at h
    · simp only [ab_en, ab_e0, List.length_cons, List.length_nil, Nat.reduceAdd, Nat.reduceSub, List.replicate, List.cons_append, List.nil_append]
      refine ab_go hG [] 80 _ _ _ _ ?_
      simp (decide := true) only [ew_n, ew_0, Option.toList_some, Option.toList_none, List.cons_append, List.nil_append, true_and, and_true, List.length_cons, List.length_nil, Nat.reduceAdd, Nat.reduceLeDiff, Int32.reduceAdd, Int32.reduceSub, Int32.reduceMul, Int32.reduceLT, Int32.reduceLE, Int32.reduceToNatClampNeg, ↓reduceIte, and_self, si_1, si_2, sl_1, sl_2, false_and, and_false, dX8_cure_0, dX8_cure_1, dX8_cure_4, dX8_cure_7, dX8_cure_9, dX8_cure_10, dX8_cure_11, dX8_cure_14, dX8_cure_15, dX8_cure_18, dX8_cure_19, dX8_cure_22, dX8_cure_23, dX8_cure_26, ca_X8_cure_188, ca_X8_cure_203, e_aload_n0, e_calls, e_callv, e_getfield, e_iload_n1, e_ireturn, gf_X8_51_0, j_bp_m2, j_goto_19_4, j_ic_0, j_ic_1, j_if_ne_15_7, j_if_ne_4_6, q_X3_bestCure, q_X8_isChoice, ab_rn, bi_0, bi_1, ite_not]
      (first | exact h | (split <;> (rename_i hh; first | rw [if_pos hh] at h | rw [if_neg hh] at h) <;> (first | exact h | (split <;> (rename_i hh; first | rw [if_pos hh] at h | rw [if_neg hh] at h) <;> (first | exact h | (split <;> (rename_i hh; first | rw [if_pos hh] at h | rw [if_neg hh] at h) <;> (first | exact h | (split <;> (rename_i hh; first | rw [if_pos hh] at h | rw [if_neg hh] at h) <;> (first | exact h | (split <;> (rename_i hh; first | rw [if_pos hh] at h | rw [if_neg hh] at h) <;> (first | exact h | (split <;> (rename_i hh; first | rw [if_pos hh] at h | rw [if_neg hh] at h) <;> (first | exact h | (split <;> (rename_i hh; first | rw [if_pos hh] at h | rw [if_neg hh] at h) <;> (first | exact h | (split <;> (rename_i hh; first | rw [if_pos hh] at h | rw [if_neg hh] at h) <;> (first | exact h | (split <;> (rename_i hh; first | rw [if_pos hh] at h | rw [if_neg hh] at h) <;> exact h))))))))))))))))))
    · exact h.elim

theorem qf_w18 {M : ab_M} {m d p b : Int32} {f : Nat → Int32} {Po : ab_P} : s_X3_pullFigures [.ref 16, .int b] (mw M 18 m d p f) Po = Po (some (.int (pf_l M b (nc_X M) 0 0))) (mw M 18 m d p f) := by
  rw [q_X3_pullFigures, nc_w18, pf_w18]
def fp_X (M : ab_M) (d : Nat) : Int32 := fp_l M d (nw_4 M) 0 (-9) 0
theorem fpq {x : Int32} {M : ab_M} {Po : ab_P} : s_X3_fewestPulls [.ref 16, .int x] M Po = (¬ x < 0 ∧ ∀ s : mr_T, Po (some (.int (fp_X M x.toNatClampNeg))) (mws M 18 s)) := rfl
def s_X8_plan : ab_Sem := fun as M Po => match as with
  | [.ref 0, .int x, .int y] => if x < 0 then Po (some (.int (-2))) M else if 20 < x then Po (some (.int (-2))) M else if y = 0 ∨ y = 1 then (∀ s : mr_T, if fp_X M x.toNatClampNeg = -9 then Po (some (.int (-9))) (mws M 18 s) else if y = 0 then Po (some (.int (pa_l M (fp_X M x.toNatClampNeg) (nc_X M) 0 0))) (mws M 18 s) else Po (some (.int (pf_l M (fp_X M x.toNatClampNeg) (nc_X M) 0 0))) (mws M 18 s)) else Po (some (.int (-2))) M
  | _ => False
theorem q_X8_plan {x y : Int32} {M : ab_M} {Po : ab_P} : s_X8_plan [.ref 0, .int x, .int y] M Po = (if x < 0 then Po (some (.int (-2))) M else if 20 < x then Po (some (.int (-2))) M else if y = 0 ∨ y = 1 then (∀ s : mr_T, if fp_X M x.toNatClampNeg = -9 then Po (some (.int (-9))) (mws M 18 s) else if y = 0 then Po (some (.int (pa_l M (fp_X M x.toNatClampNeg) (nc_X M) 0 0))) (mws M 18 s) else Po (some (.int (pf_l M (fp_X M x.toNatClampNeg) (nc_X M) 0 0))) (mws M 18 s)) else Po (some (.int (-2))) M) := rfl
abbrev x_X8_plan : ab_X := (some .int, fl_X8, [(377, 1, s_X8_isChoice), (414, 2, s_X3_fewestPulls), (420, 2, s_X3_pullsInAll), (426, 2, s_X3_pullFigures)], kl_X8, gs_X8, ab_ros)
theorem ca_X8_plan_188 {v0 : Value} {st : List Value} {M : ab_M} {k : List Value → ab_M → Prop} : ab_ca x_X8_plan (2 * 188 + 1) (v0 :: st) M k = (st.length ≤ 4 ∧ s_X8_isChoice [v0] M (fun r M' => k (r.toList ++ st) M')) := rfl
theorem ca_X8_plan_207 {v0 v1 : Value} {st : List Value} {M : ab_M} {k : List Value → ab_M → Prop} : ab_ca x_X8_plan (2 * 207) (v1 :: v0 :: st) M k = (st.length ≤ 4 ∧ s_X3_fewestPulls [v0, v1] M (fun r M' => k (r.toList ++ st) M')) := rfl
theorem ca_X8_plan_210 {v0 v1 : Value} {st : List Value} {M : ab_M} {k : List Value → ab_M → Prop} : ab_ca x_X8_plan (2 * 210) (v1 :: v0 :: st) M k = (st.length ≤ 4 ∧ s_X3_pullsInAll [v0, v1] M (fun r M' => k (r.toList ++ st) M')) := rfl
theorem ca_X8_plan_213 {v0 v1 : Value} {st : List Value} {M : ab_M} {k : List Value → ab_M → Prop} : ab_ca x_X8_plan (2 * 213) (v1 :: v0 :: st) M k = (st.length ≤ 4 ∧ s_X3_pullFigures [v0, v1] M (fun r M' => k (r.toList ++ st) M')) := rfl
theorem r_X8_plan : ∀ (as : List Value) (M : ab_M) (Po : ab_P), s_X8_plan as M Po → ∃ (q : Nat) (as' : List Value) (ci : Nat) (T : u_T) (N : Nat) (fs : List ab_F), as = .ref q :: as' ∧ ab_sh[q]? = some (.inl (ci, fs)) ∧ vwCl[ci]? = some (yX8_plan.cls, T, N) := by
  intro as M Po h
  unfold s_X8_plan at h
  split at h
  · first | exact ⟨_, _, 8, _, _, _, rfl, rfl, rfl⟩ | (rcases h.1 with rfl | rfl | rfl <;> exact ⟨_, _, 8, _, _, _, rfl, rfl, rfl⟩)
  · exact h.elim
set_option maxRecDepth 20000 in
set_option maxHeartbeats 4000000 in
theorem c_X8_plan {l : Launch} : ab_ctr l yX8_plan cX8_plan 4 (some .int) 6 143 s_X8_plan := by
  refine ab_met x_X8_plan (by decide) rfl fo_X8 ko_X8 so_X8 rfl (ab_cs_cons (ab_kS c_X8_isChoice ml_X8_188 v_X8_isChoice ⟨rfl, rfl⟩) (ab_cs_cons (ab_kV c_X3_fewestPulls ml_X8_207 v_X3_fewestPulls ⟨rfl, rfl⟩ r_X3_fewestPulls) (ab_cs_cons (ab_kV c_X3_pullsInAll ml_X8_210 v_X3_pullsInAll ⟨rfl, rfl⟩ r_X3_pullsInAll) (ab_cs_cons (ab_kV c_X3_pullFigures ml_X8_213 v_X3_pullFigures ⟨rfl, rfl⟩ r_X3_pullFigures) ab_cs_nil)))) ?_ ?_
  · intro as M Po h
    unfold s_X8_plan at h
    split at h
    · simp [ab_e0]
    · exact h.elim
  · intro as M Po h G hG
    unfold s_X8_plan at h
    split at h
    · simp only [ab_en, ab_e0, List.length_cons, List.length_nil, Nat.reduceAdd, Nat.reduceSub, List.replicate, List.cons_append, List.nil_append]
      refine ab_go hG [] 80 _ _ _ _ ?_
      simp (decide := true) only [ew_n, ew_0, Option.toList_some, Option.toList_none, List.cons_append, List.nil_append, true_and, and_true, List.length_cons, List.length_nil, Nat.reduceAdd, Nat.reduceLeDiff, Int32.reduceAdd, Int32.reduceSub, Int32.reduceMul, Int32.reduceLT, Int32.reduceLE, Int32.reduceToNatClampNeg, ↓reduceIte, and_self, si_1, si_2, sl_1, sl_2, false_and, and_false, dX8_plan_0, dX8_plan_1, dX8_plan_4, dX8_plan_5, dX8_plan_7, dX8_plan_10, dX8_plan_11, dX8_plan_14, dX8_plan_17, dX8_plan_19, dX8_plan_20, dX8_plan_21, dX8_plan_24, dX8_plan_25, dX8_plan_28, dX8_plan_29, dX8_plan_30, dX8_plan_32, dX8_plan_35, dX8_plan_37, dX8_plan_38, dX8_plan_39, dX8_plan_42, dX8_plan_43, dX8_plan_46, dX8_plan_47, dX8_plan_50, dX8_plan_53, dX8_plan_54, dX8_plan_57, dX8_plan_58, dX8_plan_61, ca_X8_plan_188, ca_X8_plan_207, ca_X8_plan_210, ca_X8_plan_213, e_aload_n0, e_calls, e_callv, e_getfield, e_iload_n1, e_iload_n2, e_iload_n3, e_ireturn, e_istore_n3i, e_istore_n3n, e_istore_n3r, gf_X8_51_0, j_bp_20, j_bp_m2, j_bp_m9, j_goto_50_11, j_icmp_gt_7_10, j_icmp_ne_32_6, j_if_lt_1_16, j_if_ne_14_6, j_if_ne_39_14, q_X8_isChoice, fpq, qf_w18, qa_w18, mws, ab_rn, bi_0, bi_1, ite_not]
      split
      · rename_i h1
        rw [if_pos h1] at h
        exact h
      · rename_i h1
        rw [if_neg h1] at h
        split
        · rename_i h2
          rw [if_pos h2] at h
          exact h
        · rename_i h2
          rw [if_neg h2] at h
          split
          · rename_i h3
            rw [if_pos h3] at h
            exact ⟨h1, h⟩
          · rename_i h3
            rw [if_neg h3] at h
            exact h
    · exact h.elim

def s_X8_share : ab_Sem := fun as M Po => match as with
  | [.ref 0, .int x, .int u] => if ¬ x < 0 ∧ x < M.1 8 3 ∧ x < 5 then (∀ s : mr_T, Po (some (.int (tm_X (lo_l M x (M.1 8 3) (n2_X (M.1 8 3)) 0 0) (fc_X (M.1 8 3)) u))) (mws M 18 s)) else Po (some (.int (-1))) M
  | _ => False
theorem q_X8_share {x u : Int32} {M : ab_M} {Po : ab_P} : s_X8_share [.ref 0, .int x, .int u] M Po = (if ¬ x < 0 ∧ x < M.1 8 3 ∧ x < 5 then (∀ s : mr_T, Po (some (.int (tm_X (lo_l M x (M.1 8 3) (n2_X (M.1 8 3)) 0 0) (fc_X (M.1 8 3)) u))) (mws M 18 s)) else Po (some (.int (-1))) M) := rfl
abbrev x_X8_share : ab_X := (some .int, fl_X8, [(260, 2, s_X7_has), (210, 1, s_X7_count), (447, 1, s_X8_factorial), (452, 2, s_X3_lossOverOrders), (459, 3, s_X8_termOf)], kl_X8, gs_X8, ab_ros)
theorem ca_X8_share_130 {v0 v1 : Value} {st : List Value} {M : ab_M} {k : List Value → ab_M → Prop} : ab_ca x_X8_share (2 * 130) (v1 :: v0 :: st) M k = (st.length ≤ 4 ∧ s_X7_has [v0, v1] M (fun r M' => k (r.toList ++ st) M')) := rfl
theorem ca_X8_share_105 {v0 : Value} {st : List Value} {M : ab_M} {k : List Value → ab_M → Prop} : ab_ca x_X8_share (2 * 105) (v0 :: st) M k = (st.length ≤ 4 ∧ s_X7_count [v0] M (fun r M' => k (r.toList ++ st) M')) := rfl
theorem ca_X8_share_223 {v0 : Value} {st : List Value} {M : ab_M} {k : List Value → ab_M → Prop} : ab_ca x_X8_share (2 * 223 + 1) (v0 :: st) M k = (st.length ≤ 4 ∧ s_X8_factorial [v0] M (fun r M' => k (r.toList ++ st) M')) := rfl
theorem ca_X8_share_226 {v0 v1 : Value} {st : List Value} {M : ab_M} {k : List Value → ab_M → Prop} : ab_ca x_X8_share (2 * 226) (v1 :: v0 :: st) M k = (st.length ≤ 4 ∧ s_X3_lossOverOrders [v0, v1] M (fun r M' => k (r.toList ++ st) M')) := rfl
theorem ca_X8_share_229 {v0 v1 v2 : Value} {st : List Value} {M : ab_M} {k : List Value → ab_M → Prop} : ab_ca x_X8_share (2 * 229 + 1) (v2 :: v1 :: v0 :: st) M k = (st.length ≤ 4 ∧ s_X8_termOf [v0, v1, v2] M (fun r M' => k (r.toList ++ st) M')) := rfl
theorem r_X8_share : ∀ (as : List Value) (M : ab_M) (Po : ab_P), s_X8_share as M Po → ∃ (q : Nat) (as' : List Value) (ci : Nat) (T : u_T) (N : Nat) (fs : List ab_F), as = .ref q :: as' ∧ ab_sh[q]? = some (.inl (ci, fs)) ∧ vwCl[ci]? = some (yX8_share.cls, T, N) := by
  intro as M Po h
  unfold s_X8_share at h
  split at h
  · first | exact ⟨_, _, 8, _, _, _, rfl, rfl, rfl⟩ | (rcases h.1 with rfl | rfl | rfl <;> exact ⟨_, _, 8, _, _, _, rfl, rfl, rfl⟩)
  · exact h.elim
set_option maxRecDepth 20000 in
set_option maxHeartbeats 4000000 in
theorem c_X8_share {l : Launch} : ab_ctr l yX8_share cX8_share 4 (some .int) 6 141 s_X8_share := by
  refine ab_met x_X8_share (by decide) rfl fo_X8 ko_X8 so_X8 rfl (ab_cs_cons (ab_kV c_X7_has ml_X8_130 v_X7_has ⟨rfl, rfl⟩ r_X7_has) (ab_cs_cons (ab_kV c_X7_count ml_X8_105 v_X7_count ⟨rfl, rfl⟩ r_X7_count) (ab_cs_cons (ab_kS c_X8_factorial ml_X8_223 v_X8_factorial ⟨rfl, rfl⟩) (ab_cs_cons (ab_kV c_X3_lossOverOrders ml_X8_226 v_X3_lossOverOrders ⟨rfl, rfl⟩ r_X3_lossOverOrders) (ab_cs_cons (ab_kS c_X8_termOf ml_X8_229 v_X8_termOf ⟨rfl, rfl⟩) ab_cs_nil))))) ?_ ?_
  · intro as M Po h
    unfold s_X8_share at h
    split at h
    · simp [ab_e0]
    · exact h.elim
  · intro as M Po h G hG
    unfold s_X8_share at h
    split at h
    · simp only [ab_en, ab_e0, List.length_cons, List.length_nil, Nat.reduceAdd, Nat.reduceSub, List.replicate, List.cons_append, List.nil_append]
      refine ab_go hG [] 80 _ _ _ _ ?_
      simp (decide := true) only [ew_n, ew_0, Option.toList_some, Option.toList_none, List.cons_append, List.nil_append, true_and, and_true, List.length_cons, List.length_nil, Nat.reduceAdd, Nat.reduceLeDiff, Int32.reduceAdd, Int32.reduceSub, Int32.reduceMul, Int32.reduceLT, Int32.reduceLE, Int32.reduceToNatClampNeg, ↓reduceIte, and_self, si_1, si_2, sl_1, sl_2, false_and, and_false, dX8_share_0, dX8_share_1, dX8_share_4, dX8_share_5, dX8_share_8, dX8_share_11, dX8_share_12, dX8_share_13, dX8_share_14, dX8_share_17, dX8_share_20, dX8_share_23, dX8_share_24, dX8_share_25, dX8_share_28, dX8_share_29, dX8_share_32, dX8_share_33, dX8_share_34, dX8_share_37, ca_X8_share_105, ca_X8_share_130, ca_X8_share_223, ca_X8_share_226, ca_X8_share_229, e_aload_n0, e_calls, e_callv, e_getfield, e_iload_n1, e_iload_n2, e_iload_n3, e_ireturn, e_istore_n3i, e_istore_n3n, e_istore_n3r, gf_X8_26_0, gf_X8_51_0, j_ic_m1, j_if_ne_8_5, q_X3_lossOverOrders, q_X7_count, q_X7_has, q_X8_factorial, q_X8_termOf, ab_rn, bi_0, bi_1, ite_not]
      (first | exact h | (split <;> (rename_i hh; first | rw [if_pos hh] at h | rw [if_neg hh] at h) <;> (first | exact h | (split <;> (rename_i hh; first | rw [if_pos hh] at h | rw [if_neg hh] at h) <;> (first | exact h | (split <;> (rename_i hh; first | rw [if_pos hh] at h | rw [if_neg hh] at h) <;> (first | exact h | (split <;> (rename_i hh; first | rw [if_pos hh] at h | rw [if_neg hh] at h) <;> (first | exact h | (split <;> (rename_i hh; first | rw [if_pos hh] at h | rw [if_neg hh] at h) <;> (first | exact h | (split <;> (rename_i hh; first | rw [if_pos hh] at h | rw [if_neg hh] at h) <;> (first | exact h | (split <;> (rename_i hh; first | rw [if_pos hh] at h | rw [if_neg hh] at h) <;> (first | exact h | (split <;> (rename_i hh; first | rw [if_pos hh] at h | rw [if_neg hh] at h) <;> (first | exact h | (split <;> (rename_i hh; first | rw [if_pos hh] at h | rw [if_neg hh] at h) <;> exact h))))))))))))))))))
    · exact h.elim

def tr_A (M : ab_M) (x z w : Int32) : ab_M := if M.1 25 3 < 0 then M else if M.1 25 3 < 6 then ab_si (ab_si (ab_si (ab_si M 26 (M.1 25 3).toNatClampNeg x) 27 (M.1 25 3).toNatClampNeg z) 28 (M.1 25 3).toNatClampNeg (vp_nar .boolean w)) 25 3 (M.1 25 3 + 1) else M
theorem trq {x z w : Int32} {M : ab_M} {Po : ab_P} : s_X6_add [.ref 25, .int x, .int z, .int w] M Po = Po none (tr_A M x z w) := rfl
def s_X8_attempt : ab_Sem := fun as M Po => match as with
  | [.ref 0, .int x, .int z, .int y] => if x < 0 then Po (some (.int (-2))) M else if 3 < x then Po (some (.int (-2))) M else if z < 1 then Po (some (.int (-2))) M else if 9 < z then Po (some (.int (-2))) M else if y = 0 ∨ y = 1 then (if M.1 25 3 < 6 then (if y = 1 then Po (some (.int ((tr_A M x z 1).1 25 3))) (tr_A M x z 1) else Po (some (.int ((tr_A M x z 0).1 25 3))) (tr_A M x z 0)) else Po (some (.int (-4))) M) else Po (some (.int (-2))) M
  | _ => False
theorem q_X8_attempt {x z y : Int32} {M : ab_M} {Po : ab_P} : s_X8_attempt [.ref 0, .int x, .int z, .int y] M Po = (if x < 0 then Po (some (.int (-2))) M else if 3 < x then Po (some (.int (-2))) M else if z < 1 then Po (some (.int (-2))) M else if 9 < z then Po (some (.int (-2))) M else if y = 0 ∨ y = 1 then (if M.1 25 3 < 6 then (if y = 1 then Po (some (.int ((tr_A M x z 1).1 25 3))) (tr_A M x z 1) else Po (some (.int ((tr_A M x z 0).1 25 3))) (tr_A M x z 0)) else Po (some (.int (-4))) M) else Po (some (.int (-2))) M) := rfl
abbrev x_X8_attempt : ab_X := (some .int, fl_X8, [(377, 1, s_X8_isChoice), (258, 1, s_X6_count), (466, 4, s_X6_add)], kl_X8, gs_X8, ab_ros)
theorem ca_X8_attempt_188 {v0 : Value} {st : List Value} {M : ab_M} {k : List Value → ab_M → Prop} : ab_ca x_X8_attempt (2 * 188 + 1) (v0 :: st) M k = (st.length ≤ 4 ∧ s_X8_isChoice [v0] M (fun r M' => k (r.toList ++ st) M')) := rfl
theorem ca_X8_attempt_129 {v0 : Value} {st : List Value} {M : ab_M} {k : List Value → ab_M → Prop} : ab_ca x_X8_attempt (2 * 129) (v0 :: st) M k = (st.length ≤ 4 ∧ s_X6_count [v0] M (fun r M' => k (r.toList ++ st) M')) := rfl
theorem ca_X8_attempt_233 {v0 v1 v2 v3 : Value} {st : List Value} {M : ab_M} {k : List Value → ab_M → Prop} : ab_ca x_X8_attempt (2 * 233) (v3 :: v2 :: v1 :: v0 :: st) M k = (st.length ≤ 4 ∧ s_X6_add [v0, v1, v2, v3] M (fun r M' => k (r.toList ++ st) M')) := rfl
theorem r_X8_attempt : ∀ (as : List Value) (M : ab_M) (Po : ab_P), s_X8_attempt as M Po → ∃ (q : Nat) (as' : List Value) (ci : Nat) (T : u_T) (N : Nat) (fs : List ab_F), as = .ref q :: as' ∧ ab_sh[q]? = some (.inl (ci, fs)) ∧ vwCl[ci]? = some (yX8_attempt.cls, T, N) := by
  intro as M Po h
  unfold s_X8_attempt at h
  split at h
  · first | exact ⟨_, _, 8, _, _, _, rfl, rfl, rfl⟩ | (rcases h.1 with rfl | rfl | rfl <;> exact ⟨_, _, 8, _, _, _, rfl, rfl, rfl⟩)
  · exact h.elim
set_option maxRecDepth 20000 in
set_option maxHeartbeats 4000000 in
theorem c_X8_attempt {l : Launch} : ab_ctr l yX8_attempt cX8_attempt 4 (some .int) 1 23 s_X8_attempt := by
  refine ab_met x_X8_attempt (by decide) rfl fo_X8 ko_X8 so_X8 rfl (ab_cs_cons (ab_kS c_X8_isChoice ml_X8_188 v_X8_isChoice ⟨rfl, rfl⟩) (ab_cs_cons (ab_kV c_X6_count ml_X8_129 v_X6_count ⟨rfl, rfl⟩ r_X6_count) (ab_cs_cons (ab_kV c_X6_add ml_X8_233 v_X6_add ⟨rfl, rfl⟩ r_X6_add) ab_cs_nil))) ?_ ?_
  · intro as M Po h
    unfold s_X8_attempt at h
    split at h
    · simp [ab_e0]
    · exact h.elim
  · intro as M Po h G hG
    unfold s_X8_attempt at h
    split at h
    · simp only [ab_en, ab_e0, List.length_cons, List.length_nil, Nat.reduceAdd, Nat.reduceSub, List.replicate, List.cons_append, List.nil_append]
      refine ab_go hG [] 80 _ _ _ _ ?_
      simp (decide := true) only [ew_n, ew_0, Option.toList_some, Option.toList_none, List.cons_append, List.nil_append, true_and, and_true, List.length_cons, List.length_nil, Nat.reduceAdd, Nat.reduceLeDiff, Int32.reduceAdd, Int32.reduceSub, Int32.reduceMul, Int32.reduceLT, Int32.reduceLE, Int32.reduceToNatClampNeg, ↓reduceIte, and_self, si_1, si_2, sl_1, sl_2, false_and, and_false, dX8_attempt_0, dX8_attempt_1, dX8_attempt_4, dX8_attempt_5, dX8_attempt_6, dX8_attempt_9, dX8_attempt_10, dX8_attempt_11, dX8_attempt_14, dX8_attempt_15, dX8_attempt_17, dX8_attempt_20, dX8_attempt_21, dX8_attempt_24, dX8_attempt_27, dX8_attempt_29, dX8_attempt_30, dX8_attempt_31, dX8_attempt_34, dX8_attempt_37, dX8_attempt_39, dX8_attempt_42, dX8_attempt_44, dX8_attempt_45, dX8_attempt_46, dX8_attempt_49, dX8_attempt_50, dX8_attempt_51, dX8_attempt_52, dX8_attempt_53, dX8_attempt_56, dX8_attempt_57, dX8_attempt_60, dX8_attempt_61, dX8_attempt_64, dX8_attempt_65, dX8_attempt_68, dX8_attempt_71, ca_X8_attempt_129, ca_X8_attempt_188, ca_X8_attempt_233, e_aload_n0, e_calls, e_callv, e_getfield, e_iload_n1, e_iload_n2, e_iload_n3, e_ireturn, gf_X8_65_0, j_bp_6, j_bp_9, j_bp_m2, j_bp_m4, j_goto_57_4, j_ic_0, j_ic_1, j_ic_3, j_icmp_gt_17_10, j_icmp_gt_6_21, j_icmp_lt_11_16, j_icmp_lt_39_6, j_icmp_ne_53_7, j_if_lt_1_26, j_if_ne_24_6, q_X6_count, q_X8_isChoice, trq, ab_rn, bi_0, bi_1, ite_not]
      (first | exact h | (split <;> (rename_i hh; first | rw [if_pos hh] at h | rw [if_neg hh] at h) <;> (first | exact h | (split <;> (rename_i hh; first | rw [if_pos hh] at h | rw [if_neg hh] at h) <;> (first | exact h | (split <;> (rename_i hh; first | rw [if_pos hh] at h | rw [if_neg hh] at h) <;> (first | exact h | (split <;> (rename_i hh; first | rw [if_pos hh] at h | rw [if_neg hh] at h) <;> (first | exact h | (split <;> (rename_i hh; first | rw [if_pos hh] at h | rw [if_neg hh] at h) <;> (first | exact h | (split <;> (rename_i hh; first | rw [if_pos hh] at h | rw [if_neg hh] at h) <;> (first | exact h | (split <;> (rename_i hh; first | rw [if_pos hh] at h | rw [if_neg hh] at h) <;> (first | exact h | (split <;> (rename_i hh; first | rw [if_pos hh] at h | rw [if_neg hh] at h) <;> (first | exact h | (split <;> (rename_i hh; first | rw [if_pos hh] at h | rw [if_neg hh] at h) <;> exact h))))))))))))))))))
    · exact h.elim

def s_X8_unattempt : ab_Sem := fun as M Po => match as with
  | [.ref 0] => Po (some (.int (M.1 25 3))) (ab_si M 25 3 0)
  | _ => False
theorem q_X8_unattempt {M : ab_M} {Po : ab_P} : s_X8_unattempt [.ref 0] M Po = (Po (some (.int (M.1 25 3))) (ab_si M 25 3 0)) := rfl
abbrev x_X8_unattempt : ab_X := (some .int, fl_X8, [(258, 1, s_X6_count), (474, 1, s_X6_forgetAll)], kl_X8, gs_X8, ab_ros)
theorem ca_X8_unattempt_129 {v0 : Value} {st : List Value} {M : ab_M} {k : List Value → ab_M → Prop} : ab_ca x_X8_unattempt (2 * 129) (v0 :: st) M k = (st.length ≤ 4 ∧ s_X6_count [v0] M (fun r M' => k (r.toList ++ st) M')) := rfl
theorem ca_X8_unattempt_237 {v0 : Value} {st : List Value} {M : ab_M} {k : List Value → ab_M → Prop} : ab_ca x_X8_unattempt (2 * 237) (v0 :: st) M k = (st.length ≤ 4 ∧ s_X6_forgetAll [v0] M (fun r M' => k (r.toList ++ st) M')) := rfl
theorem r_X8_unattempt : ∀ (as : List Value) (M : ab_M) (Po : ab_P), s_X8_unattempt as M Po → ∃ (q : Nat) (as' : List Value) (ci : Nat) (T : u_T) (N : Nat) (fs : List ab_F), as = .ref q :: as' ∧ ab_sh[q]? = some (.inl (ci, fs)) ∧ vwCl[ci]? = some (yX8_unattempt.cls, T, N) := by
  intro as M Po h
  unfold s_X8_unattempt at h
  split at h
  · first | exact ⟨_, _, 8, _, _, _, rfl, rfl, rfl⟩ | (rcases h.1 with rfl | rfl | rfl <;> exact ⟨_, _, 8, _, _, _, rfl, rfl, rfl⟩)
  · exact h.elim
set_option maxRecDepth 20000 in
set_option maxHeartbeats 4000000 in
theorem c_X8_unattempt {l : Launch} : ab_ctr l yX8_unattempt cX8_unattempt 2 (some .int) 1 20 s_X8_unattempt := by
  refine ab_met x_X8_unattempt (by decide) rfl fo_X8 ko_X8 so_X8 rfl (ab_cs_cons (ab_kV c_X6_count ml_X8_129 v_X6_count ⟨rfl, rfl⟩ r_X6_count) (ab_cs_cons (ab_kV c_X6_forgetAll ml_X8_237 v_X6_forgetAll ⟨rfl, rfl⟩ r_X6_forgetAll) ab_cs_nil)) ?_ ?_
  · intro as M Po h
    unfold s_X8_unattempt at h
    split at h
    · simp [ab_e0]
    · exact h.elim
  · intro as M Po h G hG
    unfold s_X8_unattempt at h
    split at h
    · simp only [ab_en, ab_e0, List.length_cons, List.length_nil, Nat.reduceAdd, Nat.reduceSub, List.replicate, List.cons_append, List.nil_append]
      refine ab_go hG [] 80 _ _ _ _ ?_
      simp (decide := true) only [ew_n, ew_0, Option.toList_some, Option.toList_none, List.cons_append, List.nil_append, true_and, and_true, List.length_cons, List.length_nil, Nat.reduceAdd, Nat.reduceLeDiff, Int32.reduceAdd, Int32.reduceSub, Int32.reduceMul, Int32.reduceLT, Int32.reduceLE, Int32.reduceToNatClampNeg, ↓reduceIte, and_self, si_1, si_2, sl_1, sl_2, false_and, and_false, dX8_unattempt_0, dX8_unattempt_1, dX8_unattempt_4, dX8_unattempt_7, dX8_unattempt_8, dX8_unattempt_9, dX8_unattempt_12, dX8_unattempt_15, dX8_unattempt_16, ca_X8_unattempt_129, ca_X8_unattempt_237, e_aload_n0, e_callv, e_getfield, e_iload_n1, e_ireturn, e_istore_n1i, e_istore_n1n, e_istore_n1r, gf_X8_65_0, q_X6_count, q_X6_forgetAll, ab_rn, bi_0, bi_1, ite_not]
      exact h
    · exact h.elim

def s_X8_paces : ab_Sem := fun as M Po => match as with
  | [.ref 0, .int y] => if y = 0 ∨ y = 1 then (if y = 0 then Po (some (.int (cf_l M 29 0 0))) M else Po (some (.int (ff_l M 29 0))) M) else Po (some (.int (-2))) M
  | _ => False
theorem q_X8_paces {y : Int32} {M : ab_M} {Po : ab_P} : s_X8_paces [.ref 0, .int y] M Po = (if y = 0 ∨ y = 1 then (if y = 0 then Po (some (.int (cf_l M 29 0 0))) M else Po (some (.int (ff_l M 29 0))) M) else Po (some (.int (-2))) M) := rfl
abbrev x_X8_paces : ab_X := (some .int, fl_X8, [(377, 1, s_X8_isChoice), (476, 1, s_X6_fittingCount), (482, 1, s_X6_firstFitting)], kl_X8, gs_X8, ab_ros)
theorem ca_X8_paces_188 {v0 : Value} {st : List Value} {M : ab_M} {k : List Value → ab_M → Prop} : ab_ca x_X8_paces (2 * 188 + 1) (v0 :: st) M k = (st.length ≤ 4 ∧ s_X8_isChoice [v0] M (fun r M' => k (r.toList ++ st) M')) := rfl
theorem ca_X8_paces_238 {v0 : Value} {st : List Value} {M : ab_M} {k : List Value → ab_M → Prop} : ab_ca x_X8_paces (2 * 238) (v0 :: st) M k = (st.length ≤ 4 ∧ s_X6_fittingCount [v0] M (fun r M' => k (r.toList ++ st) M')) := rfl
theorem ca_X8_paces_241 {v0 : Value} {st : List Value} {M : ab_M} {k : List Value → ab_M → Prop} : ab_ca x_X8_paces (2 * 241) (v0 :: st) M k = (st.length ≤ 4 ∧ s_X6_firstFitting [v0] M (fun r M' => k (r.toList ++ st) M')) := rfl
theorem r_X8_paces : ∀ (as : List Value) (M : ab_M) (Po : ab_P), s_X8_paces as M Po → ∃ (q : Nat) (as' : List Value) (ci : Nat) (T : u_T) (N : Nat) (fs : List ab_F), as = .ref q :: as' ∧ ab_sh[q]? = some (.inl (ci, fs)) ∧ vwCl[ci]? = some (yX8_paces.cls, T, N) := by
  intro as M Po h
  unfold s_X8_paces at h
  split at h
  · first | exact ⟨_, _, 8, _, _, _, rfl, rfl, rfl⟩ | (rcases h.1 with rfl | rfl | rfl <;> exact ⟨_, _, 8, _, _, _, rfl, rfl, rfl⟩)
  · exact h.elim
set_option maxRecDepth 20000 in
set_option maxHeartbeats 4000000 in
theorem c_X8_paces {l : Launch} : ab_ctr l yX8_paces cX8_paces 2 (some .int) 3 71 s_X8_paces := by
  refine ab_met x_X8_paces (by decide) rfl fo_X8 ko_X8 so_X8 rfl (ab_cs_cons (ab_kS c_X8_isChoice ml_X8_188 v_X8_isChoice ⟨rfl, rfl⟩) (ab_cs_cons (ab_kV c_X6_fittingCount ml_X8_238 v_X6_fittingCount ⟨rfl, rfl⟩ r_X6_fittingCount) (ab_cs_cons (ab_kV c_X6_firstFitting ml_X8_241 v_X6_firstFitting ⟨rfl, rfl⟩ r_X6_firstFitting) ab_cs_nil))) ?_ ?_
  · intro as M Po h
    unfold s_X8_paces at h
    split at h
    · simp [ab_e0]
    · exact h.elim
  · intro as M Po h G hG
    unfold s_X8_paces at h
    split at h
    · simp only [ab_en, ab_e0, List.length_cons, List.length_nil, Nat.reduceAdd, Nat.reduceSub, List.replicate, List.cons_append, List.nil_append]
      refine ab_go hG [] 80 _ _ _ _ ?_
      simp (decide := true) only [ew_n, ew_0, Option.toList_some, Option.toList_none, List.cons_append, List.nil_append, true_and, and_true, List.length_cons, List.length_nil, Nat.reduceAdd, Nat.reduceLeDiff, Int32.reduceAdd, Int32.reduceSub, Int32.reduceMul, Int32.reduceLT, Int32.reduceLE, ↓reduceIte, and_self, si_1, si_2, sl_1, sl_2, false_and, and_false, dX8_paces_0, dX8_paces_1, dX8_paces_4, dX8_paces_7, dX8_paces_9, dX8_paces_10, dX8_paces_11, dX8_paces_14, dX8_paces_15, dX8_paces_18, dX8_paces_21, dX8_paces_24, dX8_paces_25, dX8_paces_28, dX8_paces_31, ca_X8_paces_188, ca_X8_paces_238, ca_X8_paces_241, e_aload_n0, e_calls, e_callv, e_getfield, e_iload_n1, e_ireturn, gf_X8_65_0, j_bp_m2, j_goto_21_10, j_if_ne_11_13, j_if_ne_4_6, q_X6_firstFitting, q_X6_fittingCount, q_X8_isChoice, ab_rn, bi_0, bi_1, ite_not]
      (first | exact h | (split <;> (rename_i hh; first | rw [if_pos hh] at h | rw [if_neg hh] at h) <;> (first | exact h | (split <;> (rename_i hh; first | rw [if_pos hh] at h | rw [if_neg hh] at h) <;> (first | exact h | (split <;> (rename_i hh; first | rw [if_pos hh] at h | rw [if_neg hh] at h) <;> (first | exact h | (split <;> (rename_i hh; first | rw [if_pos hh] at h | rw [if_neg hh] at h) <;> (first | exact h | (split <;> (rename_i hh; first | rw [if_pos hh] at h | rw [if_neg hh] at h) <;> (first | exact h | (split <;> (rename_i hh; first | rw [if_pos hh] at h | rw [if_neg hh] at h) <;> (first | exact h | (split <;> (rename_i hh; first | rw [if_pos hh] at h | rw [if_neg hh] at h) <;> (first | exact h | (split <;> (rename_i hh; first | rw [if_pos hh] at h | rw [if_neg hh] at h) <;> (first | exact h | (split <;> (rename_i hh; first | rw [if_pos hh] at h | rw [if_neg hh] at h) <;> exact h))))))))))))))))))
    · exact h.elim

def s_X8_seed : ab_Sem := fun as M Po => match as with
  | [.ref 0, .long u] => Po (some (.long (M.2 0 9))) (ab_sl M 0 9 u)
  | _ => False
theorem q_X8_seed {u : Int64} {M : ab_M} {Po : ab_P} : s_X8_seed [.ref 0, .long u] M Po = (Po (some (.long (M.2 0 9))) (ab_sl M 0 9 u)) := rfl
abbrev x_X8_seed : ab_X := (some .long, fl_X8, [], kl_X8, gs_X8, ab_ros)
theorem r_X8_seed : ∀ (as : List Value) (M : ab_M) (Po : ab_P), s_X8_seed as M Po → ∃ (q : Nat) (as' : List Value) (ci : Nat) (T : u_T) (N : Nat) (fs : List ab_F), as = .ref q :: as' ∧ ab_sh[q]? = some (.inl (ci, fs)) ∧ vwCl[ci]? = some (yX8_seed.cls, T, N) := by
  intro as M Po h
  unfold s_X8_seed at h
  split at h
  · first | exact ⟨_, _, 8, _, _, _, rfl, rfl, rfl⟩ | (rcases h.1 with rfl | rfl | rfl <;> exact ⟨_, _, 8, _, _, _, rfl, rfl, rfl⟩)
  · exact h.elim
set_option maxRecDepth 20000 in
set_option maxHeartbeats 4000000 in
theorem c_X8_seed {l : Launch} : ab_ctr l yX8_seed cX8_seed 5 (some .long) 0 0 s_X8_seed := by
  refine ab_met x_X8_seed (by decide) rfl fo_X8 ko_X8 so_X8 rfl ab_cs_nil ?_ ?_
  · intro as M Po h
    unfold s_X8_seed at h
    split at h
    · simp [ab_e0]
    · exact h.elim
  · intro as M Po h G hG
    unfold s_X8_seed at h
    split at h
    · simp only [ab_en, ab_e0, List.length_cons, List.length_nil, Nat.reduceAdd, Nat.reduceSub, List.replicate, List.cons_append, List.nil_append]
      refine ab_go hG [] 80 _ _ _ _ ?_
      simp (decide := true) only [ew_n, ew_0, Option.toList_some, Option.toList_none, List.cons_append, List.nil_append, true_and, and_true, List.length_cons, List.length_nil, Nat.reduceAdd, Nat.reduceLeDiff, Int32.reduceAdd, Int32.reduceSub, Int32.reduceMul, Int32.reduceLT, Int32.reduceLE, Int32.reduceToNatClampNeg, ↓reduceIte, and_self, si_1, si_2, sl_1, sl_2, false_and, and_false, dX8_seed_0, dX8_seed_1, dX8_seed_4, dX8_seed_5, dX8_seed_6, dX8_seed_7, dX8_seed_10, dX8_seed_11, e_aload_n0, e_getfield, e_lload_n1, e_lload_n3, e_lreturn, e_lstore3ii, e_lstore3il, e_lstore3in, e_lstore3ir, e_lstore3ni, e_lstore3nl, e_lstore3nn, e_lstore3nr, e_lstore3ri, e_lstore3rl, e_lstore3rn, e_lstore3rr, e_putfield, gf_X8_75_0, pf_X8_75_0, ab_rn, bi_0, bi_1, ite_not]
      exact h
    · exact h.elim

def s_X8_keep : ab_Sem := fun as M Po => match as with
  | [.ref 0, .int x] => if x < 0 then Po (some (.int (-1))) M else if x < 2 then Po (some (.int (M.1 12 4))) (ab_sl M 29 x.toNatClampNeg (pn_X M)) else Po (some (.int (-1))) M
  | _ => False
theorem q_X8_keep {x : Int32} {M : ab_M} {Po : ab_P} : s_X8_keep [.ref 0, .int x] M Po = (if x < 0 then Po (some (.int (-1))) M else if x < 2 then Po (some (.int (M.1 12 4))) (ab_sl M 29 x.toNatClampNeg (pn_X M)) else Po (some (.int (-1))) M) := rfl
abbrev x_X8_keep : ab_X := (some .int, fl_X8, [(312, 1, s_X2_packed), (224, 1, s_X2_dayNumber)], kl_X8, gs_X8, ab_ros)
theorem ca_X8_keep_156 {v0 : Value} {st : List Value} {M : ab_M} {k : List Value → ab_M → Prop} : ab_ca x_X8_keep (2 * 156) (v0 :: st) M k = (st.length ≤ 4 ∧ s_X2_packed [v0] M (fun r M' => k (r.toList ++ st) M')) := rfl
theorem ca_X8_keep_112 {v0 : Value} {st : List Value} {M : ab_M} {k : List Value → ab_M → Prop} : ab_ca x_X8_keep (2 * 112) (v0 :: st) M k = (st.length ≤ 4 ∧ s_X2_dayNumber [v0] M (fun r M' => k (r.toList ++ st) M')) := rfl
theorem r_X8_keep : ∀ (as : List Value) (M : ab_M) (Po : ab_P), s_X8_keep as M Po → ∃ (q : Nat) (as' : List Value) (ci : Nat) (T : u_T) (N : Nat) (fs : List ab_F), as = .ref q :: as' ∧ ab_sh[q]? = some (.inl (ci, fs)) ∧ vwCl[ci]? = some (yX8_keep.cls, T, N) := by
  intro as M Po h
  unfold s_X8_keep at h
  split at h
  · first | exact ⟨_, _, 8, _, _, _, rfl, rfl, rfl⟩ | (rcases h.1 with rfl | rfl | rfl <;> exact ⟨_, _, 8, _, _, _, rfl, rfl, rfl⟩)
  · exact h.elim
set_option maxRecDepth 20000 in
set_option maxHeartbeats 4000000 in
theorem c_X8_keep {l : Launch} : ab_ctr l yX8_keep cX8_keep 2 (some .int) 1 23 s_X8_keep := by
  refine ab_met x_X8_keep (by decide) rfl fo_X8 ko_X8 so_X8 rfl (ab_cs_cons (ab_kV c_X2_packed ml_X8_156 v_X2_packed ⟨rfl, rfl⟩ r_X2_packed) (ab_cs_cons (ab_kV c_X2_dayNumber ml_X8_112 v_X2_dayNumber ⟨rfl, rfl⟩ r_X2_dayNumber) ab_cs_nil)) ?_ ?_
  · intro as M Po h
    unfold s_X8_keep at h
    split at h
    · simp [ab_e0]
    · exact h.elim
  · intro as M Po h G hG
    unfold s_X8_keep at h
    split at h
    · simp only [ab_en, ab_e0, List.length_cons, List.length_nil, Nat.reduceAdd, Nat.reduceSub, List.replicate, List.cons_append, List.nil_append]
      refine ab_go hG [] 80 _ _ _ _ ?_
      simp (decide := true) only [ew_n, ew_0, Option.toList_some, Option.toList_none, List.cons_append, List.nil_append, true_and, and_true, List.length_cons, List.length_nil, Nat.reduceAdd, Nat.reduceLeDiff, Int32.reduceAdd, Int32.reduceSub, Int32.reduceMul, Int32.reduceLT, Int32.reduceLE, Int32.reduceToNatClampNeg, ↓reduceIte, and_self, si_1, si_2, sl_1, sl_2, false_and, and_false, dX8_keep_0, dX8_keep_1, dX8_keep_4, dX8_keep_5, dX8_keep_6, dX8_keep_9, dX8_keep_10, dX8_keep_13, dX8_keep_14, dX8_keep_15, dX8_keep_16, dX8_keep_19, dX8_keep_20, dX8_keep_21, dX8_keep_24, dX8_keep_27, dX8_keep_28, dX8_keep_29, dX8_keep_32, dX8_keep_35, ca_X8_keep_112, ca_X8_keep_156, e_alen, e_aload_n0, e_callv, e_getfield, e_iload_n1, e_ireturn, e_lastore, el_29, es_29, gf_X8_35_0, gf_X8_71_0, j_ic_m1, j_icmp_lt_10_5, j_if_lt_1_12, q_X2_dayNumber, pnq, ab_rn, bi_0, bi_1, ite_not]
      split
      · rename_i h1
        rw [if_pos h1] at h
        exact h
      · rename_i h1
        rw [if_neg h1] at h
        split
        · rename_i h2
          rw [if_pos h2] at h
          exact ⟨⟨Int32.not_lt.mp h1, h2⟩, h⟩
        · rename_i h2
          rw [if_neg h2] at h
          exact h
    · exact h.elim

theorem un_12 {N : ab_M} {u : Int64} : (un_m N u).1 12 4 = up_d u := by
  unfold un_m
  exact mw_r4
def s_X8_again : ab_Sem := fun as M Po => match as with
  | [.ref 0, .int x] => if x < 0 then Po (some (.int (-1))) M else if x < 2 then (if M.2 29 x.toNatClampNeg = -1 then Po (some (.int (-3))) M else Po (some (.int (up_d (M.2 29 x.toNatClampNeg)))) (ab_si (un_m M (M.2 29 x.toNatClampNeg)) 14 1 0)) else Po (some (.int (-1))) M
  | _ => False
theorem q_X8_again {x : Int32} {M : ab_M} {Po : ab_P} : s_X8_again [.ref 0, .int x] M Po = (if x < 0 then Po (some (.int (-1))) M else if x < 2 then (if M.2 29 x.toNatClampNeg = -1 then Po (some (.int (-3))) M else Po (some (.int (up_d (M.2 29 x.toNatClampNeg)))) (ab_si (un_m M (M.2 29 x.toNatClampNeg)) 14 1 0)) else Po (some (.int (-1))) M) := rfl
abbrev x_X8_again : ab_X := (some .int, fl_X8, [(370, 2, s_X2_unpack), (198, 1, s_X0_forgetAll), (224, 1, s_X2_dayNumber)], kl_X8, gs_X8, ab_ros)
theorem ca_X8_again_185 {v0 v1 : Value} {st : List Value} {M : ab_M} {k : List Value → ab_M → Prop} : ab_ca x_X8_again (2 * 185) (v1 :: v0 :: st) M k = (st.length ≤ 4 ∧ s_X2_unpack [v0, v1] M (fun r M' => k (r.toList ++ st) M')) := rfl
theorem ca_X8_again_99 {v0 : Value} {st : List Value} {M : ab_M} {k : List Value → ab_M → Prop} : ab_ca x_X8_again (2 * 99) (v0 :: st) M k = (st.length ≤ 4 ∧ s_X0_forgetAll [v0] M (fun r M' => k (r.toList ++ st) M')) := rfl
theorem ca_X8_again_112 {v0 : Value} {st : List Value} {M : ab_M} {k : List Value → ab_M → Prop} : ab_ca x_X8_again (2 * 112) (v0 :: st) M k = (st.length ≤ 4 ∧ s_X2_dayNumber [v0] M (fun r M' => k (r.toList ++ st) M')) := rfl
theorem r_X8_again : ∀ (as : List Value) (M : ab_M) (Po : ab_P), s_X8_again as M Po → ∃ (q : Nat) (as' : List Value) (ci : Nat) (T : u_T) (N : Nat) (fs : List ab_F), as = .ref q :: as' ∧ ab_sh[q]? = some (.inl (ci, fs)) ∧ vwCl[ci]? = some (yX8_again.cls, T, N) := by
  intro as M Po h
  unfold s_X8_again at h
  split at h
  · first | exact ⟨_, _, 8, _, _, _, rfl, rfl, rfl⟩ | (rcases h.1 with rfl | rfl | rfl <;> exact ⟨_, _, 8, _, _, _, rfl, rfl, rfl⟩)
  · exact h.elim
set_option maxRecDepth 20000 in
set_option maxHeartbeats 4000000 in
theorem c_X8_again {l : Launch} : ab_ctr l yX8_again cX8_again 2 (some .int) 1 25 s_X8_again := by
  refine ab_met x_X8_again (by decide) rfl fo_X8 ko_X8 so_X8 rfl (ab_cs_cons (ab_kV c_X2_unpack ml_X8_185 v_X2_unpack ⟨rfl, rfl⟩ r_X2_unpack) (ab_cs_cons (ab_kV c_X0_forgetAll ml_X8_99 v_X0_forgetAll ⟨rfl, rfl⟩ r_X0_forgetAll) (ab_cs_cons (ab_kV c_X2_dayNumber ml_X8_112 v_X2_dayNumber ⟨rfl, rfl⟩ r_X2_dayNumber) ab_cs_nil))) ?_ ?_
  · intro as M Po h
    unfold s_X8_again at h
    split at h
    · simp [ab_e0]
    · exact h.elim
  · intro as M Po h G hG
    unfold s_X8_again at h
    split at h
    · simp only [ab_en, ab_e0, List.length_cons, List.length_nil, Nat.reduceAdd, Nat.reduceSub, List.replicate, List.cons_append, List.nil_append]
      refine ab_go hG [] 80 _ _ _ _ ?_
      simp (decide := true) only [ew_n, ew_0, Option.toList_some, Option.toList_none, List.cons_append, List.nil_append, true_and, and_true, List.length_cons, List.length_nil, Nat.reduceAdd, Nat.reduceLeDiff, Int32.reduceAdd, Int32.reduceSub, Int32.reduceMul, Int32.reduceLT, Int32.reduceLE, Int32.reduceToNatClampNeg, ↓reduceIte, and_self, si_1, si_2, sl_1, sl_2, false_and, and_false, dX8_again_0, dX8_again_1, dX8_again_4, dX8_again_5, dX8_again_6, dX8_again_9, dX8_again_10, dX8_again_13, dX8_again_14, dX8_again_15, dX8_again_16, dX8_again_19, dX8_again_20, dX8_again_21, dX8_again_24, dX8_again_25, dX8_again_28, dX8_again_30, dX8_again_31, dX8_again_32, dX8_again_35, dX8_again_36, dX8_again_39, dX8_again_40, dX8_again_41, dX8_again_44, dX8_again_45, dX8_again_48, dX8_again_51, dX8_again_52, dX8_again_55, dX8_again_58, ca_X8_again_112, ca_X8_again_185, ca_X8_again_99, e_alen, e_aload_n0, e_callv, e_getfield, e_iload_n1, e_ireturn, e_kl_X8_69, e_laload, e_lcmp, ea_29, el_29, gf_X8_35_0, gf_X8_42_0, gf_X8_71_0, j_bp_m3, j_ic_m1, j_icmp_lt_10_5, j_if_lt_1_12, j_if_ne_25_6, q_X0_forgetAll, q_X2_dayNumber, unq, lg_eq, un_12, ab_rn, bi_0, bi_1, ite_not]
      split
      · rename_i h1
        rw [if_pos h1] at h
        exact h
      · rename_i h1
        rw [if_neg h1] at h
        split
        · rename_i h2
          rw [if_pos h2] at h
          have hb : (0 : Int32) ≤ _ ∧ _ := ⟨Int32.not_lt.mp h1, h2⟩
          refine ⟨hb, ?_⟩
          split
          · rename_i h3
            rw [if_pos h3] at h
            exact h
          · rename_i h3
            rw [if_neg h3] at h
            exact ⟨hb, h⟩
        · rename_i h2
          rw [if_neg h2] at h
          exact h
    · exact h.elim

