/-! METHODS: Chances -/
theorem qm_w23 {M : ab_M} {m d p : Int32} {f : Nat → Int32} {Po : ab_P} : s_X2_menCount [.ref 12] (mw M 23 m d p f) Po = Po (some (.int (M.1 8 3))) (mw M 23 m d p f) := propext ⟨fun h => h.2, fun h => ⟨Or.inl rfl, h⟩⟩
theorem qn_w23 {M : ab_M} {m d p : Int32} {f : Nat → Int32} {Po : ab_P} : s_X2_mile [.ref 12] (mw M 23 m d p f) Po = Po (some (.int (M.1 12 3))) (mw M 23 m d p f) := propext ⟨fun h => h.2, fun h => ⟨Or.inl rfl, h⟩⟩
def s_X1_setOut : ab_Sem := fun as M Po => match as with
  | [.ref 20] => Po none (mw M 23 (M.1 12 3) (M.1 12 4) (-1) (fi_5 (M.1 13) (M.1 24)))
  | _ => False
theorem q_X1_setOut {M : ab_M} {Po : ab_P} : s_X1_setOut [.ref 20] M Po = (Po none (mw M 23 (M.1 12 3) (M.1 12 4) (-1) (fi_5 (M.1 13) (M.1 24)))) := rfl
abbrev x_X1_setOut : ab_X := (none, fl_X1, [(50, 2, s_X2_follow)], kl_X1, gs_X1, ab_ros)
theorem ca_X1_setOut_25 {v0 v1 : Value} {st : List Value} {M : ab_M} {k : List Value → ab_M → Prop} : ab_ca x_X1_setOut (2 * 25) (v1 :: v0 :: st) M k = (st.length ≤ 4 ∧ s_X2_follow [v0, v1] M (fun r M' => k (r.toList ++ st) M')) := rfl
theorem r_X1_setOut : ∀ (as : List Value) (M : ab_M) (Po : ab_P), s_X1_setOut as M Po → ∃ (q : Nat) (as' : List Value) (ci : Nat) (T : u_T) (N : Nat) (fs : List ab_F), as = .ref q :: as' ∧ ab_sh[q]? = some (.inl (ci, fs)) ∧ vwCl[ci]? = some (yX1_setOut.cls, T, N) := by
  intro as M Po h
  unfold s_X1_setOut at h
  split at h
  · first | exact ⟨_, _, 1, _, _, _, rfl, rfl, rfl⟩ | (rcases h.1 with rfl | rfl | rfl <;> exact ⟨_, _, 1, _, _, _, rfl, rfl, rfl⟩)
  · exact h.elim
set_option maxRecDepth 20000 in
set_option maxHeartbeats 4000000 in
theorem c_X1_setOut {l : Launch} : ab_ctr l yX1_setOut cX1_setOut 1 none 1 22 s_X1_setOut := by
  refine ab_met x_X1_setOut (by decide) rfl fo_X1 ko_X1 so_X1 rfl (ab_cs_cons (ab_kV c_X2_follow ml_X1_25 v_X2_follow ⟨rfl, rfl⟩ r_X2_follow) ab_cs_nil) ?_ ?_
  · intro as M Po h
    unfold s_X1_setOut at h
    split at h
    · simp [ab_e0]
    · exact h.elim
  · intro as M Po h G hG
    unfold s_X1_setOut at h
    split at h
    · refine ab_go hG [] 60 _ _ _ _ ?_
      simp only [ab_en, ab_e0, List.length_cons, List.length_nil, Nat.reduceAdd, Nat.reduceSub, List.replicate, List.cons_append, List.nil_append]
      simp (decide := true) only [ew_n, ew_0, Option.toList_some, Option.toList_none, List.cons_append, List.nil_append, true_and, and_true, List.length_cons, List.length_nil, Nat.reduceAdd, Nat.reduceLeDiff, Int32.reduceAdd, Int32.reduceSub, Int32.reduceMul, Int32.reduceLT, Int32.reduceLE, Int32.reduceToNatClampNeg, ↓reduceIte, and_self, si_1, si_2, sl_1, sl_2, false_and, and_false, dX1_setOut_0, dX1_setOut_1, dX1_setOut_4, dX1_setOut_5, dX1_setOut_8, dX1_setOut_11, ca_X1_setOut_25, e_aload_n0, e_callv, e_getfield, e_return, gf_X1_18_20, gf_X1_22_20, q_X2_follow, ab_rn, bi_0, bi_1, ite_not]
      exact h
    · exact h.elim

def mb_X (M : ab_M) (s : mr_T) (x : Int32) : mr_T := if x < 5 then (s.1, s.2.1, s.2.2.1, pr_X M s.2.2.2 x) else if x < 10 then (s.1, s.2.1, s.2.2.1, ea_X M s.2.2.2 (x - 5)) else if x = 10 then st_X M s else dy_X M s
def s_X1_mileBehindLot : ab_Sem := fun as M Po => match as with
  | [.ref 20, .int x] => Po (some (.int (mb_X M (mrs M 23) x).1)) (mws M 23 (mb_X M (mrs M 23) x))
  | _ => False
theorem q_X1_mileBehindLot {x : Int32} {M : ab_M} {Po : ab_P} : s_X1_mileBehindLot [.ref 20, .int x] M Po = (Po (some (.int (mb_X M (mrs M 23) x).1)) (mws M 23 (mb_X M (mrs M 23) x))) := rfl
abbrev x_X1_mileBehindLot : ab_X := (some .int, fl_X1, [(62, 2, s_X2_prick), (146, 2, s_X2_ease), (152, 1, s_X2_stay), (158, 1, s_X2_goDay), (76, 1, s_X2_mile)], kl_X1, gs_X1, ab_ros)
theorem ca_X1_mileBehindLot_31 {v0 v1 : Value} {st : List Value} {M : ab_M} {k : List Value → ab_M → Prop} : ab_ca x_X1_mileBehindLot (2 * 31) (v1 :: v0 :: st) M k = (st.length ≤ 4 ∧ s_X2_prick [v0, v1] M (fun r M' => k (r.toList ++ st) M')) := rfl
theorem ca_X1_mileBehindLot_73 {v0 v1 : Value} {st : List Value} {M : ab_M} {k : List Value → ab_M → Prop} : ab_ca x_X1_mileBehindLot (2 * 73) (v1 :: v0 :: st) M k = (st.length ≤ 4 ∧ s_X2_ease [v0, v1] M (fun r M' => k (r.toList ++ st) M')) := rfl
theorem ca_X1_mileBehindLot_76 {v0 : Value} {st : List Value} {M : ab_M} {k : List Value → ab_M → Prop} : ab_ca x_X1_mileBehindLot (2 * 76) (v0 :: st) M k = (st.length ≤ 4 ∧ s_X2_stay [v0] M (fun r M' => k (r.toList ++ st) M')) := rfl
theorem ca_X1_mileBehindLot_79 {v0 : Value} {st : List Value} {M : ab_M} {k : List Value → ab_M → Prop} : ab_ca x_X1_mileBehindLot (2 * 79) (v0 :: st) M k = (st.length ≤ 4 ∧ s_X2_goDay [v0] M (fun r M' => k (r.toList ++ st) M')) := rfl
theorem ca_X1_mileBehindLot_38 {v0 : Value} {st : List Value} {M : ab_M} {k : List Value → ab_M → Prop} : ab_ca x_X1_mileBehindLot (2 * 38) (v0 :: st) M k = (st.length ≤ 4 ∧ s_X2_mile [v0] M (fun r M' => k (r.toList ++ st) M')) := rfl
theorem r_X1_mileBehindLot : ∀ (as : List Value) (M : ab_M) (Po : ab_P), s_X1_mileBehindLot as M Po → ∃ (q : Nat) (as' : List Value) (ci : Nat) (T : u_T) (N : Nat) (fs : List ab_F), as = .ref q :: as' ∧ ab_sh[q]? = some (.inl (ci, fs)) ∧ vwCl[ci]? = some (yX1_mileBehindLot.cls, T, N) := by
  intro as M Po h
  unfold s_X1_mileBehindLot at h
  split at h
  · first | exact ⟨_, _, 1, _, _, _, rfl, rfl, rfl⟩ | (rcases h.1 with rfl | rfl | rfl <;> exact ⟨_, _, 1, _, _, _, rfl, rfl, rfl⟩)
  · exact h.elim
set_option maxRecDepth 20000 in
set_option maxHeartbeats 4000000 in
theorem lp_X1_mileBehindLot {G : ab_K} {Po : ab_P} (hG : ab_Clo cX1_mileBehindLot x_X1_mileBehindLot Po G) {M : ab_M} {m d p x : Int32} {f : Nat → Int32} (h : Po (some (.int (mb_X M (m, d, p, f) x).1)) (mws M 23 (mb_X M (m, d, p, f) x))) : G 0 [some (.ref 20), some (.int x)] [] (mw M 23 m d p f) := by
  refine ab_go hG [] 80 _ _ _ _ ?_
  simp (decide := true) only [ew_n, ew_0, Option.toList_some, Option.toList_none, List.cons_append, List.nil_append, true_and, and_true, List.length_cons, List.length_nil, Nat.reduceAdd, Nat.reduceLeDiff, Int32.reduceAdd, Int32.reduceSub, Int32.reduceMul, Int32.reduceLT, Int32.reduceLE, ↓reduceIte, and_self, si_1, si_2, sl_1, sl_2, false_and, and_false, dX1_mileBehindLot_0, dX1_mileBehindLot_1, dX1_mileBehindLot_2, dX1_mileBehindLot_5, dX1_mileBehindLot_6, dX1_mileBehindLot_9, dX1_mileBehindLot_10, dX1_mileBehindLot_13, dX1_mileBehindLot_16, dX1_mileBehindLot_17, dX1_mileBehindLot_19, dX1_mileBehindLot_22, dX1_mileBehindLot_23, dX1_mileBehindLot_26, dX1_mileBehindLot_27, dX1_mileBehindLot_28, dX1_mileBehindLot_29, dX1_mileBehindLot_32, dX1_mileBehindLot_35, dX1_mileBehindLot_36, dX1_mileBehindLot_38, dX1_mileBehindLot_41, dX1_mileBehindLot_42, dX1_mileBehindLot_45, dX1_mileBehindLot_48, dX1_mileBehindLot_51, dX1_mileBehindLot_52, dX1_mileBehindLot_55, dX1_mileBehindLot_58, dX1_mileBehindLot_59, dX1_mileBehindLot_60, dX1_mileBehindLot_63, dX1_mileBehindLot_66, ca_X1_mileBehindLot_31, ca_X1_mileBehindLot_38, ca_X1_mileBehindLot_73, ca_X1_mileBehindLot_76, ca_X1_mileBehindLot_79, e_aload_n0, e_callv, e_getfield, e_iload_n1, e_ireturn, e_isub, e_pop, gf_X1_22_20, j_bp_10, j_goto_13_46, j_goto_32_27, j_goto_48_11, j_ic_5, j_icmp_ge_19_16, j_icmp_ge_2_14, j_icmp_ne_38_13, pq_w23, sq_w23, mq_w23, eq_w23, gq_w23, mws, ab_rn, bi_0, bi_1, ite_not]
  unfold mb_X at h
  by_cases h0 : x < 5
  · simp only [if_pos h0] at h ⊢
    exact h
  · simp only [if_neg h0] at h ⊢
    by_cases h1 : x < 10
    · simp only [if_pos h1] at h ⊢
      exact h
    · simp only [if_neg h1] at h ⊢
      by_cases h2 : x = 10
      · simp only [if_pos h2] at h ⊢
        exact h
      · simp only [if_neg h2] at h ⊢
        exact h
set_option maxRecDepth 20000 in
set_option maxHeartbeats 4000000 in
theorem c_X1_mileBehindLot {l : Launch} : ab_ctr l yX1_mileBehindLot cX1_mileBehindLot 2 (some .int) 3 72 s_X1_mileBehindLot := by
  refine ab_met x_X1_mileBehindLot (by decide) rfl fo_X1 ko_X1 so_X1 rfl (ab_cs_cons (ab_kV c_X2_prick ml_X1_31 v_X2_prick ⟨rfl, rfl⟩ r_X2_prick) (ab_cs_cons (ab_kV c_X2_ease ml_X1_73 v_X2_ease ⟨rfl, rfl⟩ r_X2_ease) (ab_cs_cons (ab_kV c_X2_stay ml_X1_76 v_X2_stay ⟨rfl, rfl⟩ r_X2_stay) (ab_cs_cons (ab_kV c_X2_goDay ml_X1_79 v_X2_goDay ⟨rfl, rfl⟩ r_X2_goDay) (ab_cs_cons (ab_kV c_X2_mile ml_X1_38 v_X2_mile ⟨rfl, rfl⟩ r_X2_mile) ab_cs_nil))))) ?_ ?_
  · intro as M Po h
    unfold s_X1_mileBehindLot at h
    split at h
    · simp [ab_e0]
    · exact h.elim
  · intro as M Po h G hG
    unfold s_X1_mileBehindLot at h
    split at h
    · simp only [ab_en, ab_e0, List.length_cons, List.length_nil, Nat.reduceAdd, Nat.reduceSub, List.replicate, List.cons_append, List.nil_append]
      have key := lp_X1_mileBehindLot hG (m := M.1 23 3) (d := M.1 23 4) (p := M.1 23 5) (f := M.1 24) h
      rw [show mw M 23 (M.1 23 3) (M.1 23 4) (M.1 23 5) (M.1 24) = M from mw_id] at key
      exact key
    · exact h.elim

def ir_X (M : ab_M) (x : Int32) : Int32 := if M.1 21 x.toNatClampNeg < M.1 21 (x ^^^ 2).toNatClampNeg then 0 else if M.1 22 x.toNatClampNeg < M.1 22 (x ^^^ 1).toNatClampNeg then 0 else 1
def rc_1 (M : ab_M) (c x : Int32) : Int32 := if ir_X M x = 0 then c else c + 1
def fr_v (x : Int32) : Int32 := 10 * (x >>> ((1 : Int32) &&& 31)) + (x &&& 1)
def s_X1_hasBy : ab_Sem := fun as M Po => match as with
  | [.ref q, .int x] => (q = 21 ∨ q = 22) ∧ (x = 0 ∨ x = 1 ∨ x = 2 ∨ x = 3) ∧ Po (some (.int (M.1 q x.toNatClampNeg))) M
  | _ => False
theorem q_X1_hasBy {q : Nat} {x : Int32} {M : ab_M} {Po : ab_P} : s_X1_hasBy [.ref q, .int x] M Po = ((q = 21 ∨ q = 22) ∧ (x = 0 ∨ x = 1 ∨ x = 2 ∨ x = 3) ∧ Po (some (.int (M.1 q x.toNatClampNeg))) M) := rfl
abbrev x_X1_hasBy : ab_X := (some .int, fl_X1, [], kl_X1, gs_X1, ab_ros)
set_option maxRecDepth 20000 in
set_option maxHeartbeats 4000000 in
theorem c_X1_hasBy {l : Launch} : ab_ctr l yX1_hasBy cX1_hasBy 2 (some .int) 0 0 s_X1_hasBy := by
  refine ab_met x_X1_hasBy (by decide) rfl fo_X1 ko_X1 so_X1 rfl ab_cs_nil ?_ ?_
  · intro as M Po h
    unfold s_X1_hasBy at h
    split at h
    · simp [ab_e0]
    · exact h.elim
  · intro as M Po h G hG
    unfold s_X1_hasBy at h
    split at h
    · simp only [ab_en, ab_e0, List.length_cons, List.length_nil, Nat.reduceAdd, Nat.reduceSub, List.replicate, List.cons_append, List.nil_append]
      obtain ⟨hq, hx, h⟩ := h
      rcases hq with rfl | rfl <;> rcases hx with rfl | rfl | rfl | rfl
      all_goals
        refine ab_go hG [] 80 _ _ _ _ ?_
        simp (decide := true) only [ew_n, ew_0, Option.toList_some, Option.toList_none, List.cons_append, List.nil_append, true_and, and_true, List.length_cons, List.length_nil, Nat.reduceAdd, Nat.reduceLeDiff, Int32.reduceAdd, Int32.reduceSub, Int32.reduceMul, Int32.reduceLT, Int32.reduceLE, ↓reduceIte, and_self, si_1, si_2, sl_1, sl_2, false_and, and_false, dX1_hasBy_0, dX1_hasBy_1, dX1_hasBy_4, dX1_hasBy_5, dX1_hasBy_6, dX1_hasBy_7, dX1_hasBy_10, dX1_hasBy_11, dX1_hasBy_12, dX1_hasBy_13, dX1_hasBy_16, dX1_hasBy_17, e_alen, e_aload_n0, e_iaload, e_iload_n1, e_ireturn, ea_21, ea_22, el_21, el_22, j_goto_13_4, j_ic_0, j_icmp_ge_7_9, j_if_lt_1_15, ab_rn, bi_0, bi_1, ite_not]
        exact h
    · exact h.elim

def s_X1_isRest : ab_Sem := fun as M Po => match as with
  | [.ref 20, .int x] => (x = 0 ∨ x = 1 ∨ x = 2 ∨ x = 3) ∧ Po (some (.int (ir_X M x))) M
  | _ => False
theorem q_X1_isRest {x : Int32} {M : ab_M} {Po : ab_P} : s_X1_isRest [.ref 20, .int x] M Po = ((x = 0 ∨ x = 1 ∨ x = 2 ∨ x = 3) ∧ Po (some (.int (ir_X M x))) M) := rfl
abbrev x_X1_isRest : ab_X := (some .boolean, fl_X1, [(91, 2, s_X1_hasBy)], kl_X1, gs_X1, ab_ros)
theorem ca_X1_isRest_45 {v0 v1 : Value} {st : List Value} {M : ab_M} {k : List Value → ab_M → Prop} : ab_ca x_X1_isRest (2 * 45 + 1) (v1 :: v0 :: st) M k = (st.length ≤ 4 ∧ s_X1_hasBy [v0, v1] M (fun r M' => k (r.toList ++ st) M')) := rfl
theorem r_X1_isRest : ∀ (as : List Value) (M : ab_M) (Po : ab_P), s_X1_isRest as M Po → ∃ (q : Nat) (as' : List Value) (ci : Nat) (T : u_T) (N : Nat) (fs : List ab_F), as = .ref q :: as' ∧ ab_sh[q]? = some (.inl (ci, fs)) ∧ vwCl[ci]? = some (yX1_isRest.cls, T, N) := by
  intro as M Po h
  unfold s_X1_isRest at h
  split at h
  · first | exact ⟨_, _, 1, _, _, _, rfl, rfl, rfl⟩ | (exact ⟨_, _, 1, _, _, _, rfl, rfl, rfl⟩)
  · exact h.elim
set_option maxRecDepth 20000 in
set_option maxHeartbeats 4000000 in
theorem c_X1_isRest {l : Launch} : ab_ctr l yX1_isRest cX1_isRest 2 (some .boolean) 1 21 s_X1_isRest := by
  refine ab_met x_X1_isRest (by decide) rfl fo_X1 ko_X1 so_X1 rfl (ab_cs_cons (ab_kS c_X1_hasBy ml_X1_45 v_X1_hasBy ⟨rfl, rfl⟩) ab_cs_nil) ?_ ?_
  · intro as M Po h
    unfold s_X1_isRest at h
    split at h
    · simp [ab_e0]
    · exact h.elim
  · intro as M Po h G hG
    unfold s_X1_isRest at h
    split at h
    · simp only [ab_en, ab_e0, List.length_cons, List.length_nil, Nat.reduceAdd, Nat.reduceSub, List.replicate, List.cons_append, List.nil_append]
      obtain ⟨hx, h⟩ := h
      unfold ir_X at h
      rcases hx with rfl | rfl | rfl | rfl
      all_goals
        refine ab_go hG [] 80 _ _ _ _ ?_
        simp (decide := true) only [ew_n, ew_0, Option.toList_some, Option.toList_none, List.cons_append, List.nil_append, true_and, and_true, List.length_cons, List.length_nil, Nat.reduceAdd, Nat.reduceLeDiff, Int32.reduceAdd, Int32.reduceSub, Int32.reduceMul, Int32.reduceLT, Int32.reduceLE, ↓reduceIte, and_self, si_1, si_2, sl_1, sl_2, false_and, and_false, dX1_isRest_0, dX1_isRest_1, dX1_isRest_4, dX1_isRest_5, dX1_isRest_6, dX1_isRest_7, dX1_isRest_10, dX1_isRest_11, dX1_isRest_14, dX1_isRest_15, dX1_isRest_18, dX1_isRest_21, dX1_isRest_22, dX1_isRest_25, dX1_isRest_26, dX1_isRest_27, dX1_isRest_28, dX1_isRest_31, dX1_isRest_32, dX1_isRest_35, dX1_isRest_36, dX1_isRest_39, dX1_isRest_42, dX1_isRest_43, dX1_isRest_46, dX1_isRest_47, ca_X1_isRest_45, e_aload_n0, e_calls, e_getfield, e_iload_n1, e_ireturn, e_ixor, gf_X1_15_20, gf_X1_9_20, j_goto_43_4, j_ic_0, j_ic_1, j_ic_2, j_icmp_gt_18_28, j_icmp_gt_39_7, q_X1_hasBy, true_or, or_true, false_or, or_false, ab_rn, bi_0, bi_1, ite_not]
        split
        · rename_i h1
          rw [if_pos h1] at h
          exact h
        · rename_i h1
          rw [if_neg h1] at h
          split
          · rename_i h2
            rw [if_pos h2] at h
            exact h
          · rename_i h2
            rw [if_neg h2] at h
            exact h
    · exact h.elim

def s_X1_restCount : ab_Sem := fun as M Po => match as with
  | [.ref 20] => Po (some (.int (rc_1 M (rc_1 M (rc_1 M (rc_1 M 0 0) 1) 2) 3))) M
  | _ => False
theorem q_X1_restCount {M : ab_M} {Po : ab_P} : s_X1_restCount [.ref 20] M Po = (Po (some (.int (rc_1 M (rc_1 M (rc_1 M (rc_1 M 0 0) 1) 2) 3))) M) := rfl
abbrev x_X1_restCount : ab_X := (some .int, fl_X1, [(98, 2, s_X1_isRest)], kl_X1, gs_X1, ab_ros)
theorem ca_X1_restCount_49 {v0 v1 : Value} {st : List Value} {M : ab_M} {k : List Value → ab_M → Prop} : ab_ca x_X1_restCount (2 * 49) (v1 :: v0 :: st) M k = (st.length ≤ 4 ∧ s_X1_isRest [v0, v1] M (fun r M' => k (r.toList ++ st) M')) := rfl
theorem r_X1_restCount : ∀ (as : List Value) (M : ab_M) (Po : ab_P), s_X1_restCount as M Po → ∃ (q : Nat) (as' : List Value) (ci : Nat) (T : u_T) (N : Nat) (fs : List ab_F), as = .ref q :: as' ∧ ab_sh[q]? = some (.inl (ci, fs)) ∧ vwCl[ci]? = some (yX1_restCount.cls, T, N) := by
  intro as M Po h
  unfold s_X1_restCount at h
  split at h
  · first | exact ⟨_, _, 1, _, _, _, rfl, rfl, rfl⟩ | (rcases h.1 with rfl | rfl | rfl <;> exact ⟨_, _, 1, _, _, _, rfl, rfl, rfl⟩)
  · exact h.elim
set_option maxRecDepth 20000 in
set_option maxHeartbeats 4000000 in
theorem c_X1_restCount {l : Launch} : ab_ctr l yX1_restCount cX1_restCount 3 (some .int) 2 42 s_X1_restCount := by
  refine ab_met x_X1_restCount (by decide) rfl fo_X1 ko_X1 so_X1 rfl (ab_cs_cons (ab_kV c_X1_isRest ml_X1_49 v_X1_isRest ⟨rfl, rfl⟩ r_X1_isRest) ab_cs_nil) ?_ ?_
  · intro as M Po h
    unfold s_X1_restCount at h
    split at h
    · simp [ab_e0]
    · exact h.elim
  · intro as M Po h G hG
    unfold s_X1_restCount at h
    split at h
    · simp only [ab_en, ab_e0, List.length_cons, List.length_nil, Nat.reduceAdd, Nat.reduceSub, List.replicate, List.cons_append, List.nil_append]
      refine ab_go hG [] 80 _ _ _ _ ?_
      simp (decide := true) only [ew_n, ew_0, Option.toList_some, Option.toList_none, List.cons_append, List.nil_append, true_and, and_true, List.length_cons, List.length_nil, Nat.reduceAdd, Nat.reduceLeDiff, Int32.reduceAdd, Int32.reduceSub, Int32.reduceMul, Int32.reduceLT, Int32.reduceLE, Int32.reduceToNatClampNeg, ↓reduceIte, and_self, si_1, si_2, sl_1, sl_2, false_and, and_false, dX1_restCount_0, dX1_restCount_1, dX1_restCount_2, dX1_restCount_3, dX1_restCount_4, dX1_restCount_5, dX1_restCount_6, dX1_restCount_9, dX1_restCount_10, dX1_restCount_13, dX1_restCount_14, dX1_restCount_15, dX1_restCount_18, dX1_restCount_21, dX1_restCount_24, dX1_restCount_27, dX1_restCount_30, dX1_restCount_31, ca_X1_restCount_49, e_alen, e_aload_n0, e_callv, e_getfield, e_iload_n1, e_iload_n2, e_ireturn, e_istore_n1i, e_istore_n1n, e_istore_n1r, e_istore_n2i, e_istore_n2n, e_istore_n2r, el_21, gf_X1_9_20, j_goto_27_m23, j_ic_0, j_icmp_ge_10_20, j_if_eq_18_6, j_ii_1_1, j_ii_2_1, q_X1_isRest, ab_rn, bi_0, bi_1, ite_not]
      simp only [rc_1] at h
      (repeat' split) <;> (try simp (decide := true) only [i0_le, *, not_false_eq_true, not_true_eq_false, and_self, true_and, and_true, or_false, false_or, or_true, true_or, false_and, and_false, not_and, ↓reduceIte] at h) <;> (try simp (decide := true) only [i0_le, *, not_false_eq_true, not_true_eq_false, and_self, true_and, and_true, or_false, false_or, or_true, true_or, false_and, and_false, not_and, ↓reduceIte]) <;> first | done | exact h | (exfalso; simp_all (decide := true) only [not_true_eq_false, not_false_eq_true, false_and, and_false, true_and, and_true]; done)
    · exact h.elim

def s_X1_firstRest : ab_Sem := fun as M Po => match as with
  | [.ref 20] => Po (some (.int (if ir_X M 0 = 0 then (if ir_X M 1 = 0 then (if ir_X M 2 = 0 then (if ir_X M 3 = 0 then -9 else fr_v 3) else fr_v 2) else fr_v 1) else fr_v 0))) M
  | _ => False
theorem q_X1_firstRest {M : ab_M} {Po : ab_P} : s_X1_firstRest [.ref 20] M Po = (Po (some (.int (if ir_X M 0 = 0 then (if ir_X M 1 = 0 then (if ir_X M 2 = 0 then (if ir_X M 3 = 0 then -9 else fr_v 3) else fr_v 2) else fr_v 1) else fr_v 0))) M) := rfl
abbrev x_X1_firstRest : ab_X := (some .int, fl_X1, [(98, 2, s_X1_isRest)], kl_X1, gs_X1, ab_ros)
theorem ca_X1_firstRest_49 {v0 v1 : Value} {st : List Value} {M : ab_M} {k : List Value → ab_M → Prop} : ab_ca x_X1_firstRest (2 * 49) (v1 :: v0 :: st) M k = (st.length ≤ 4 ∧ s_X1_isRest [v0, v1] M (fun r M' => k (r.toList ++ st) M')) := rfl
theorem r_X1_firstRest : ∀ (as : List Value) (M : ab_M) (Po : ab_P), s_X1_firstRest as M Po → ∃ (q : Nat) (as' : List Value) (ci : Nat) (T : u_T) (N : Nat) (fs : List ab_F), as = .ref q :: as' ∧ ab_sh[q]? = some (.inl (ci, fs)) ∧ vwCl[ci]? = some (yX1_firstRest.cls, T, N) := by
  intro as M Po h
  unfold s_X1_firstRest at h
  split at h
  · first | exact ⟨_, _, 1, _, _, _, rfl, rfl, rfl⟩ | (rcases h.1 with rfl | rfl | rfl <;> exact ⟨_, _, 1, _, _, _, rfl, rfl, rfl⟩)
  · exact h.elim
set_option maxRecDepth 20000 in
set_option maxHeartbeats 4000000 in
theorem c_X1_firstRest {l : Launch} : ab_ctr l yX1_firstRest cX1_firstRest 2 (some .int) 2 42 s_X1_firstRest := by
  refine ab_met x_X1_firstRest (by decide) rfl fo_X1 ko_X1 so_X1 rfl (ab_cs_cons (ab_kV c_X1_isRest ml_X1_49 v_X1_isRest ⟨rfl, rfl⟩ r_X1_isRest) ab_cs_nil) ?_ ?_
  · intro as M Po h
    unfold s_X1_firstRest at h
    split at h
    · simp [ab_e0]
    · exact h.elim
  · intro as M Po h G hG
    unfold s_X1_firstRest at h
    split at h
    · simp only [ab_en, ab_e0, List.length_cons, List.length_nil, Nat.reduceAdd, Nat.reduceSub, List.replicate, List.cons_append, List.nil_append]
      refine ab_go hG [] 80 _ _ _ _ ?_
      simp (decide := true) only [ew_n, ew_0, Option.toList_some, Option.toList_none, List.cons_append, List.nil_append, true_and, and_true, List.length_cons, List.length_nil, Nat.reduceAdd, Nat.reduceLeDiff, Int32.reduceAdd, Int32.reduceSub, Int32.reduceMul, Int32.reduceLT, Int32.reduceLE, Int32.reduceToNatClampNeg, ↓reduceIte, and_self, si_1, si_2, sl_1, sl_2, false_and, and_false, dX1_firstRest_0, dX1_firstRest_1, dX1_firstRest_2, dX1_firstRest_3, dX1_firstRest_4, dX1_firstRest_7, dX1_firstRest_8, dX1_firstRest_11, dX1_firstRest_12, dX1_firstRest_13, dX1_firstRest_16, dX1_firstRest_19, dX1_firstRest_21, dX1_firstRest_22, dX1_firstRest_23, dX1_firstRest_24, dX1_firstRest_25, dX1_firstRest_26, dX1_firstRest_27, dX1_firstRest_28, dX1_firstRest_29, dX1_firstRest_30, dX1_firstRest_33, dX1_firstRest_36, dX1_firstRest_38, ca_X1_firstRest_49, e_alen, e_aload_n0, e_callv, e_getfield, e_iadd, e_iand, e_iload_n1, e_imul, e_ireturn, e_ishr, e_istore_n1i, e_istore_n1n, e_istore_n1r, el_21, gf_X1_9_20, j_bp_10, j_bp_m9, j_goto_33_m31, j_ic_0, j_ic_1, j_icmp_ge_8_28, j_if_eq_16_14, j_ii_1_1, q_X1_isRest, ab_rn, bi_0, bi_1, ite_not]
      simp only [fr_v] at h
      (repeat' split) <;> (try simp (decide := true) only [i0_le, *, not_false_eq_true, not_true_eq_false, and_self, true_and, and_true, or_false, false_or, or_true, true_or, false_and, and_false, not_and, ↓reduceIte] at h) <;> (try simp (decide := true) only [i0_le, *, not_false_eq_true, not_true_eq_false, and_self, true_and, and_true, or_false, false_or, or_true, true_or, false_and, and_false, not_and, ↓reduceIte]) <;> first | done | exact h | (exfalso; simp_all (decide := true) only [not_true_eq_false, not_false_eq_true, false_and, and_false, true_and, and_true]; done)
    · exact h.elim

def pk_l (M : ab_M) (b : Int32) : Nat → Nat → (Nat → Int32) → (Nat → Int32)
  | 0, _, f => f
  | n + 1, i, f => pk_l M b n (i + 1) (if (b >>> (nI i &&& 31)) &&& 1 = 1 then pr_X M f (nI i) else f)
theorem pk_e5 {M : ab_M} {b : Int32} : ∀ (n i : Nat) {f g : Nat → Int32}, e5 f g → e5 (pk_l M b n i f) (pk_l M b n i g)
  | 0, _, _, _, h => h
  | n + 1, i, f, g, h => by
    unfold pk_l
    split
    · exact pk_e5 n (i + 1) (pr_e5 h _)
    · exact pk_e5 n (i + 1) h
theorem pk_w23 {M : ab_M} {m d p b : Int32} {f : Nat → Int32} : ∀ n i g, pk_l (mw M 23 m d p f) b n i g = pk_l M b n i g
  | 0, _, _ => rfl
  | n + 1, i, g => by simp only [pk_l, w_pr23, pk_w23 n]
theorem nc_w23 {M : ab_M} {m d p : Int32} {f : Nat → Int32} : nc_X (mw M 23 m d p f) = nc_X M := rfl
def ip_n (M : ab_M) (b : Int32) (n : Nat) : Int32 := if (ge_X M n 0 (M.1 12 3, M.1 12 4, -1, pk_l M b (nc_X M) 0 (M.1 13))).1 = -9 then 0 else 1
theorem ip_w23 {M : ab_M} {m d p b : Int32} {f : Nat → Int32} {n : Nat} : ip_n (mw M 23 m d p f) b n = ip_n M b n := by
  simp only [ip_n, ge_w23, pk_w23, nc_w23, n23_3, n23_4, n23_t]
def s_X1_isInTimePricked : ab_Sem := fun as M Po => match as with
  | [.ref 20, .int b, .int x] => ¬ x < 0 ∧ ∀ s : mr_T, Po (some (.int (ip_n M b x.toNatClampNeg))) (mws M 23 s)
  | _ => False
theorem q_X1_isInTimePricked {b x : Int32} {M : ab_M} {Po : ab_P} : s_X1_isInTimePricked [.ref 20, .int b, .int x] M Po = (¬ x < 0 ∧ ∀ s : mr_T, Po (some (.int (ip_n M b x.toNatClampNeg))) (mws M 23 s)) := rfl
abbrev x_X1_isInTimePricked : ab_X := (some .boolean, fl_X1, [(50, 2, s_X2_follow), (106, 1, s_X2_menCount), (62, 2, s_X2_prick), (140, 2, s_X2_goToEnd)], kl_X1, gs_X1, ab_ros)
theorem ca_X1_isInTimePricked_25 {v0 v1 : Value} {st : List Value} {M : ab_M} {k : List Value → ab_M → Prop} : ab_ca x_X1_isInTimePricked (2 * 25) (v1 :: v0 :: st) M k = (st.length ≤ 4 ∧ s_X2_follow [v0, v1] M (fun r M' => k (r.toList ++ st) M')) := rfl
theorem ca_X1_isInTimePricked_53 {v0 : Value} {st : List Value} {M : ab_M} {k : List Value → ab_M → Prop} : ab_ca x_X1_isInTimePricked (2 * 53) (v0 :: st) M k = (st.length ≤ 4 ∧ s_X2_menCount [v0] M (fun r M' => k (r.toList ++ st) M')) := rfl
theorem ca_X1_isInTimePricked_31 {v0 v1 : Value} {st : List Value} {M : ab_M} {k : List Value → ab_M → Prop} : ab_ca x_X1_isInTimePricked (2 * 31) (v1 :: v0 :: st) M k = (st.length ≤ 4 ∧ s_X2_prick [v0, v1] M (fun r M' => k (r.toList ++ st) M')) := rfl
theorem ca_X1_isInTimePricked_70 {v0 v1 : Value} {st : List Value} {M : ab_M} {k : List Value → ab_M → Prop} : ab_ca x_X1_isInTimePricked (2 * 70) (v1 :: v0 :: st) M k = (st.length ≤ 4 ∧ s_X2_goToEnd [v0, v1] M (fun r M' => k (r.toList ++ st) M')) := rfl
theorem r_X1_isInTimePricked : ∀ (as : List Value) (M : ab_M) (Po : ab_P), s_X1_isInTimePricked as M Po → ∃ (q : Nat) (as' : List Value) (ci : Nat) (T : u_T) (N : Nat) (fs : List ab_F), as = .ref q :: as' ∧ ab_sh[q]? = some (.inl (ci, fs)) ∧ vwCl[ci]? = some (yX1_isInTimePricked.cls, T, N) := by
  intro as M Po h
  unfold s_X1_isInTimePricked at h
  split at h
  · first | exact ⟨_, _, 1, _, _, _, rfl, rfl, rfl⟩ | (rcases h.1 with rfl | rfl | rfl <;> exact ⟨_, _, 1, _, _, _, rfl, rfl, rfl⟩)
  · exact h.elim
set_option maxRecDepth 20000 in
set_option maxHeartbeats 4000000 in
theorem lq_X1_isInTimePricked {G : ab_K} {Po : ab_P} (hG : ab_Clo cX1_isInTimePricked x_X1_isInTimePricked Po G) {M : ab_M} {m d p b x : Int32} (hx : ¬ x < 0) : ∀ (j i : Nat) (f : Nat → Int32), i + j = nc_X M → Po (some (.int (if (ge_X M x.toNatClampNeg 0 (m, d, p, pk_l M b j i f)).1 = -9 then 0 else 1))) (mws M 23 (ge_X M x.toNatClampNeg 0 (m, d, p, pk_l M b j i f)).2) → G 13 [some (.ref 20), some (.int b), some (.int x), some (.int (nI i))] [] (mw M 23 m d p f) := by
  intro j
  have h31 := nc_31 M
  induction j with
  | zero =>
    intro i f hi h
    unfold pk_l at h
    refine ab_go1 hG [13] 80 _ _ _ _ ?_
    simp (decide := true) only [ew_s, ew_0, Option.toList_some, Option.toList_none, List.cons_append, List.nil_append, true_and, and_true, List.length_cons, List.length_nil, Nat.reduceAdd, Nat.reduceLeDiff, Int32.reduceAdd, Int32.reduceSub, Int32.reduceMul, Int32.reduceLT, Int32.reduceLE, ↓reduceIte, and_self, si_1, si_2, sl_1, sl_2, false_and, and_false, dX1_isInTimePricked_0, dX1_isInTimePricked_1, dX1_isInTimePricked_4, dX1_isInTimePricked_5, dX1_isInTimePricked_8, dX1_isInTimePricked_11, dX1_isInTimePricked_12, dX1_isInTimePricked_13, dX1_isInTimePricked_14, dX1_isInTimePricked_15, dX1_isInTimePricked_18, dX1_isInTimePricked_21, dX1_isInTimePricked_24, dX1_isInTimePricked_25, dX1_isInTimePricked_26, dX1_isInTimePricked_27, dX1_isInTimePricked_28, dX1_isInTimePricked_29, dX1_isInTimePricked_30, dX1_isInTimePricked_33, dX1_isInTimePricked_34, dX1_isInTimePricked_37, dX1_isInTimePricked_38, dX1_isInTimePricked_41, dX1_isInTimePricked_44, dX1_isInTimePricked_47, dX1_isInTimePricked_48, dX1_isInTimePricked_51, dX1_isInTimePricked_52, dX1_isInTimePricked_55, dX1_isInTimePricked_57, dX1_isInTimePricked_60, dX1_isInTimePricked_61, dX1_isInTimePricked_64, dX1_isInTimePricked_65, ca_X1_isInTimePricked_25, ca_X1_isInTimePricked_31, ca_X1_isInTimePricked_53, ca_X1_isInTimePricked_70, e_aload_n0, e_callv, e_getfield, e_iand, e_iload_n1, e_iload_n2, e_iload_n3, e_ireturn, e_ishr, e_istore_n3i, e_istore_n3n, e_istore_n3r, gf_X1_18_20, gf_X1_22_20, j_bp_m9, j_goto_44_m31, j_goto_61_4, j_ic_0, j_ic_1, j_icmp_eq_57_7, j_icmp_ge_21_26, j_icmp_ne_30_11, j_ii_3_1, eq_g23, qm_w23, ab_rn, bi_0, bi_1, ite_not]
    rw [if_neg (nc_ge (by omega) (by omega))]
    refine ⟨hx, ?_⟩
    split
    · rename_i h2
      rw [if_pos h2] at h
      exact h
    · rename_i h2
      rw [if_neg h2] at h
      exact h
  | succ j ih =>
    intro i f hi h
    unfold pk_l at h
    refine ab_go1 hG [13] 80 _ _ _ _ ?_
    simp (decide := true) only [ew_s, ew_0, Option.toList_some, Option.toList_none, List.cons_append, List.nil_append, true_and, and_true, List.length_cons, List.length_nil, Nat.reduceAdd, Nat.reduceLeDiff, Int32.reduceAdd, Int32.reduceSub, Int32.reduceMul, Int32.reduceLT, Int32.reduceLE, ↓reduceIte, and_self, si_1, si_2, sl_1, sl_2, false_and, and_false, dX1_isInTimePricked_0, dX1_isInTimePricked_1, dX1_isInTimePricked_4, dX1_isInTimePricked_5, dX1_isInTimePricked_8, dX1_isInTimePricked_11, dX1_isInTimePricked_12, dX1_isInTimePricked_13, dX1_isInTimePricked_14, dX1_isInTimePricked_15, dX1_isInTimePricked_18, dX1_isInTimePricked_21, dX1_isInTimePricked_24, dX1_isInTimePricked_25, dX1_isInTimePricked_26, dX1_isInTimePricked_27, dX1_isInTimePricked_28, dX1_isInTimePricked_29, dX1_isInTimePricked_30, dX1_isInTimePricked_33, dX1_isInTimePricked_34, dX1_isInTimePricked_37, dX1_isInTimePricked_38, dX1_isInTimePricked_41, dX1_isInTimePricked_44, dX1_isInTimePricked_47, dX1_isInTimePricked_48, dX1_isInTimePricked_51, dX1_isInTimePricked_52, dX1_isInTimePricked_55, dX1_isInTimePricked_57, dX1_isInTimePricked_60, dX1_isInTimePricked_61, dX1_isInTimePricked_64, dX1_isInTimePricked_65, ca_X1_isInTimePricked_25, ca_X1_isInTimePricked_31, ca_X1_isInTimePricked_53, ca_X1_isInTimePricked_70, e_aload_n0, e_callv, e_getfield, e_iand, e_iload_n1, e_iload_n2, e_iload_n3, e_ireturn, e_ishr, e_istore_n3i, e_istore_n3n, e_istore_n3r, gf_X1_18_20, gf_X1_22_20, j_bp_m9, j_goto_44_m31, j_goto_61_4, j_ic_0, j_ic_1, j_icmp_eq_57_7, j_icmp_ge_21_26, j_icmp_ne_30_11, j_ii_3_1, pq_w23, qm_w23, ab_rn, bi_0, bi_1, ite_not]
    rw [if_pos (nc_lt (by omega)), nI_1]
    split
    · rename_i h2
      rw [if_pos h2] at h
      exact ih (i + 1) _ (by omega) h
    · rename_i h2
      rw [if_neg h2] at h
      exact ih (i + 1) _ (by omega) h
theorem ln_X1_isInTimePricked {M : ab_M} {b : Int32} {f : Nat → Int32} {Po : ab_P} (n : Nat) (h : ∀ s : mr_T, Po (some (.int (ip_n M b n))) (mws M 23 s)) : Po (some (.int (if (ge_X M n 0 (M.1 12 3, M.1 12 4, -1, pk_l M b (nc_X M) 0 (fi_5 (M.1 13) f))).1 = -9 then 0 else 1))) (mws M 23 (ge_X M n 0 (M.1 12 3, M.1 12 4, -1, pk_l M b (nc_X M) 0 (fi_5 (M.1 13) f))).2) := by
  have e : m5 (M.1 12 3, M.1 12 4, -1, pk_l M b (nc_X M) 0 (fi_5 (M.1 13) f)) (M.1 12 3, M.1 12 4, -1, pk_l M b (nc_X M) 0 (M.1 13)) := m5_mk (pk_e5 _ _ (fi_e5 _ _))
  rw [ge_m5 (M := M) n 0 e]
  exact h _
set_option maxRecDepth 20000 in
set_option maxHeartbeats 4000000 in
theorem lp_X1_isInTimePricked {G : ab_K} {Po : ab_P} (hG : ab_Clo cX1_isInTimePricked x_X1_isInTimePricked Po G) {M : ab_M} {m d p b x : Int32} {f : Nat → Int32} (hx : ¬ x < 0) (h : ∀ s : mr_T, Po (some (.int (ip_n M b x.toNatClampNeg))) (mws M 23 s)) : G 0 [some (.ref 20), some (.int b), some (.int x), none] [] (mw M 23 m d p f) := by
  refine ab_go hG [13] 80 _ _ _ _ ?_
  simp (decide := true) only [ew_s, ew_0, Option.toList_some, Option.toList_none, List.cons_append, List.nil_append, true_and, and_true, List.length_cons, List.length_nil, Nat.reduceAdd, Nat.reduceLeDiff, Int32.reduceAdd, Int32.reduceSub, Int32.reduceMul, Int32.reduceLT, Int32.reduceLE, ↓reduceIte, and_self, si_1, si_2, sl_1, sl_2, false_and, and_false, dX1_isInTimePricked_0, dX1_isInTimePricked_1, dX1_isInTimePricked_4, dX1_isInTimePricked_5, dX1_isInTimePricked_8, dX1_isInTimePricked_11, dX1_isInTimePricked_12, dX1_isInTimePricked_13, dX1_isInTimePricked_14, dX1_isInTimePricked_15, dX1_isInTimePricked_18, dX1_isInTimePricked_21, dX1_isInTimePricked_24, dX1_isInTimePricked_25, dX1_isInTimePricked_26, dX1_isInTimePricked_27, dX1_isInTimePricked_28, dX1_isInTimePricked_29, dX1_isInTimePricked_30, dX1_isInTimePricked_33, dX1_isInTimePricked_34, dX1_isInTimePricked_37, dX1_isInTimePricked_38, dX1_isInTimePricked_41, dX1_isInTimePricked_44, dX1_isInTimePricked_47, dX1_isInTimePricked_48, dX1_isInTimePricked_51, dX1_isInTimePricked_52, dX1_isInTimePricked_55, dX1_isInTimePricked_57, dX1_isInTimePricked_60, dX1_isInTimePricked_61, dX1_isInTimePricked_64, dX1_isInTimePricked_65, ca_X1_isInTimePricked_25, ca_X1_isInTimePricked_31, ca_X1_isInTimePricked_53, ca_X1_isInTimePricked_70, e_aload_n0, e_callv, e_getfield, e_iand, e_iload_n1, e_iload_n2, e_iload_n3, e_ireturn, e_ishr, e_istore_n3i, e_istore_n3n, e_istore_n3r, gf_X1_18_20, gf_X1_22_20, j_bp_m9, j_goto_44_m31, j_goto_61_4, j_ic_0, j_ic_1, j_icmp_eq_57_7, j_icmp_ge_21_26, j_icmp_ne_30_11, j_ii_3_1, fq_w23, ab_rn, bi_0, bi_1, ite_not]
  exact lq_X1_isInTimePricked hG hx _ 0 _ (by omega) (ln_X1_isInTimePricked _ h)
set_option maxRecDepth 20000 in
set_option maxHeartbeats 4000000 in
theorem c_X1_isInTimePricked {l : Launch} : ab_ctr l yX1_isInTimePricked cX1_isInTimePricked 4 (some .boolean) 4 94 s_X1_isInTimePricked := by
  refine ab_met x_X1_isInTimePricked (by decide) rfl fo_X1 ko_X1 so_X1 rfl (ab_cs_cons (ab_kV c_X2_follow ml_X1_25 v_X2_follow ⟨rfl, rfl⟩ r_X2_follow) (ab_cs_cons (ab_kV c_X2_menCount ml_X1_53 v_X2_menCount ⟨rfl, rfl⟩ r_X2_menCount) (ab_cs_cons (ab_kV c_X2_prick ml_X1_31 v_X2_prick ⟨rfl, rfl⟩ r_X2_prick) (ab_cs_cons (ab_kV c_X2_goToEnd ml_X1_70 v_X2_goToEnd ⟨rfl, rfl⟩ r_X2_goToEnd) ab_cs_nil)))) ?_ ?_
  · intro as M Po h
    unfold s_X1_isInTimePricked at h
    split at h
    · simp [ab_e0]
    · exact h.elim
  · intro as M Po h G hG
    unfold s_X1_isInTimePricked at h
    split at h
    · simp only [ab_en, ab_e0, List.length_cons, List.length_nil, Nat.reduceAdd, Nat.reduceSub, List.replicate, List.cons_append, List.nil_append]
      have key := lp_X1_isInTimePricked hG (m := M.1 23 3) (d := M.1 23 4) (p := M.1 23 5) (f := M.1 24) h.1 h.2
      rw [show mw M 23 (M.1 23 3) (M.1 23 4) (M.1 23 5) (M.1 24) = M from mw_id] at key
      exact key
    · exact h.elim

theorem ipq_w23 {M : ab_M} {m d p b x : Int32} {f : Nat → Int32} {Po : ab_P} : s_X1_isInTimePricked [.ref 20, .int b, .int x] (mw M 23 m d p f) Po = (¬ x < 0 ∧ ∀ s : mr_T, Po (some (.int (ip_n M b x.toNatClampNeg))) (mws M 23 s)) := by
  rw [q_X1_isInTimePricked, ip_w23]
  simp only [mws_w23]
def ch_X (t c : Int32) (i : Nat) : Int32 := pw_X t (bc_X (nI i)).toNatClampNeg * pw_X (10 - t) (c - bc_X (nI i)).toNatClampNeg
def wi_l (M : ab_M) (d : Nat) (t c : Int32) : Nat → Nat → Int32 → Int32
  | 0, _, a => a
  | n + 1, i, a => if 0 < ch_X t c i ∧ ¬ ip_n M (nI i) d = 0 then wi_l M d t c n (i + 1) (a + ch_X t c i) else wi_l M d t c n (i + 1) a
def s_X1_weightInTime : ab_Sem := fun as M Po => match as with
  | [.ref 20, .int x, .int t] => ¬ x < 0 ∧ ∀ s : mr_T, Po (some (.int (wi_l M x.toNatClampNeg t (M.1 8 3) (n2_X (M.1 8 3)) 0 0))) (mws M 23 s)
  | _ => False
theorem q_X1_weightInTime {x t : Int32} {M : ab_M} {Po : ab_P} : s_X1_weightInTime [.ref 20, .int x, .int t] M Po = (¬ x < 0 ∧ ∀ s : mr_T, Po (some (.int (wi_l M x.toNatClampNeg t (M.1 8 3) (n2_X (M.1 8 3)) 0 0))) (mws M 23 s)) := rfl
abbrev x_X1_weightInTime : ab_X := (some .int, fl_X1, [(106, 1, s_X2_menCount), (113, 1, s_J6_bitCount_0f7a4), (125, 2, s_X8_power), (132, 3, s_X1_isInTimePricked)], kl_X1, gs_X1, ab_ros)
theorem ca_X1_weightInTime_53 {v0 : Value} {st : List Value} {M : ab_M} {k : List Value → ab_M → Prop} : ab_ca x_X1_weightInTime (2 * 53) (v0 :: st) M k = (st.length ≤ 4 ∧ s_X2_menCount [v0] M (fun r M' => k (r.toList ++ st) M')) := rfl
theorem ca_X1_weightInTime_56 {v0 : Value} {st : List Value} {M : ab_M} {k : List Value → ab_M → Prop} : ab_ca x_X1_weightInTime (2 * 56 + 1) (v0 :: st) M k = (st.length ≤ 4 ∧ s_J6_bitCount_0f7a4 [v0] M (fun r M' => k (r.toList ++ st) M')) := rfl
theorem ca_X1_weightInTime_62 {v0 v1 : Value} {st : List Value} {M : ab_M} {k : List Value → ab_M → Prop} : ab_ca x_X1_weightInTime (2 * 62 + 1) (v1 :: v0 :: st) M k = (st.length ≤ 4 ∧ s_X8_power [v0, v1] M (fun r M' => k (r.toList ++ st) M')) := rfl
theorem ca_X1_weightInTime_66 {v0 v1 v2 : Value} {st : List Value} {M : ab_M} {k : List Value → ab_M → Prop} : ab_ca x_X1_weightInTime (2 * 66) (v2 :: v1 :: v0 :: st) M k = (st.length ≤ 4 ∧ s_X1_isInTimePricked [v0, v1, v2] M (fun r M' => k (r.toList ++ st) M')) := rfl
theorem r_X1_weightInTime : ∀ (as : List Value) (M : ab_M) (Po : ab_P), s_X1_weightInTime as M Po → ∃ (q : Nat) (as' : List Value) (ci : Nat) (T : u_T) (N : Nat) (fs : List ab_F), as = .ref q :: as' ∧ ab_sh[q]? = some (.inl (ci, fs)) ∧ vwCl[ci]? = some (yX1_weightInTime.cls, T, N) := by
  intro as M Po h
  unfold s_X1_weightInTime at h
  split at h
  · first | exact ⟨_, _, 1, _, _, _, rfl, rfl, rfl⟩ | (rcases h.1 with rfl | rfl | rfl <;> exact ⟨_, _, 1, _, _, _, rfl, rfl, rfl⟩)
  · exact h.elim
set_option maxRecDepth 20000 in
set_option maxHeartbeats 4000000 in
theorem lq_X1_weightInTime {G : ab_K} {Po : ab_P} (hG : ab_Clo cX1_weightInTime x_X1_weightInTime Po G) {M : ab_M} {x t w : Int32} (hx : ¬ x < 0) : ∀ (j i : Nat) (a m d p : Int32) (f : Nat → Int32) (c6 c7 : Option Value), i + j = n2_X w → (∀ s : mr_T, Po (some (.int (wi_l M x.toNatClampNeg t w j i a))) (mws M 23 s)) → G 14 [some (.ref 20), some (.int x), some (.int t), some (.int w), some (.int a), some (.int (nI i)), c6, c7] [] (mw M 23 m d p f) := by
  intro j
  have h31 := n2_31 w
  induction j with
  | zero =>
    intro i a m d p f c6 c7 hi h
    unfold wi_l at h
    refine ab_go1 hG [14] 80 _ _ _ _ ?_
    simp (decide := true) only [ew_s, ew_0, Option.toList_some, Option.toList_none, List.cons_append, List.nil_append, true_and, and_true, List.length_cons, List.length_nil, Nat.reduceAdd, Nat.reduceLeDiff, Int32.reduceAdd, Int32.reduceSub, Int32.reduceMul, Int32.reduceLT, Int32.reduceLE, ↓reduceIte, and_self, si_1, si_2, sl_1, sl_2, false_and, and_false, dX1_weightInTime_0, dX1_weightInTime_1, dX1_weightInTime_4, dX1_weightInTime_7, dX1_weightInTime_8, dX1_weightInTime_9, dX1_weightInTime_11, dX1_weightInTime_12, dX1_weightInTime_14, dX1_weightInTime_16, dX1_weightInTime_17, dX1_weightInTime_18, dX1_weightInTime_19, dX1_weightInTime_22, dX1_weightInTime_24, dX1_weightInTime_27, dX1_weightInTime_29, dX1_weightInTime_30, dX1_weightInTime_32, dX1_weightInTime_35, dX1_weightInTime_37, dX1_weightInTime_38, dX1_weightInTime_39, dX1_weightInTime_40, dX1_weightInTime_42, dX1_weightInTime_43, dX1_weightInTime_46, dX1_weightInTime_47, dX1_weightInTime_49, dX1_weightInTime_51, dX1_weightInTime_54, dX1_weightInTime_55, dX1_weightInTime_57, dX1_weightInTime_58, dX1_weightInTime_61, dX1_weightInTime_64, dX1_weightInTime_66, dX1_weightInTime_68, dX1_weightInTime_69, dX1_weightInTime_71, dX1_weightInTime_74, dX1_weightInTime_77, dX1_weightInTime_79, ca_X1_weightInTime_53, ca_X1_weightInTime_56, ca_X1_weightInTime_62, ca_X1_weightInTime_66, e_aload_n0, e_calls, e_callv, e_getfield, e_iadd, e_iload4, e_iload5, e_iload6, e_iload7, e_iload_n1, e_iload_n2, e_iload_n3, e_imul, e_ireturn, e_ishl, e_istore4i, e_istore4n, e_istore4r, e_istore5i, e_istore5n, e_istore5r, e_istore6i, e_istore6n, e_istore6r, e_istore7i, e_istore7n, e_istore7r, e_istore_n3i, e_istore_n3n, e_istore_n3r, e_isub, gf_X1_18_20, j_bp_10, j_goto_74_m60, j_ic_0, j_ic_1, j_icmp_ge_19_58, j_if_eq_61_10, j_if_le_51_20, j_ii_5_1, q_J6_bitCount_0f7a4, q_X8_power, ipq_w23, ab_rn, bi_0, bi_1, ite_not]
    rw [if_neg (n2_ge (by omega) (by omega))]
    exact h (m, d, p, f)
  | succ j ih =>
    intro i a m d p f c6 c7 hi h
    unfold wi_l at h
    refine ab_go1 hG [14] 80 _ _ _ _ ?_
    simp (decide := true) only [ew_s, ew_0, Option.toList_some, Option.toList_none, List.cons_append, List.nil_append, true_and, and_true, List.length_cons, List.length_nil, Nat.reduceAdd, Nat.reduceLeDiff, Int32.reduceAdd, Int32.reduceSub, Int32.reduceMul, Int32.reduceLT, Int32.reduceLE, ↓reduceIte, and_self, si_1, si_2, sl_1, sl_2, false_and, and_false, dX1_weightInTime_0, dX1_weightInTime_1, dX1_weightInTime_4, dX1_weightInTime_7, dX1_weightInTime_8, dX1_weightInTime_9, dX1_weightInTime_11, dX1_weightInTime_12, dX1_weightInTime_14, dX1_weightInTime_16, dX1_weightInTime_17, dX1_weightInTime_18, dX1_weightInTime_19, dX1_weightInTime_22, dX1_weightInTime_24, dX1_weightInTime_27, dX1_weightInTime_29, dX1_weightInTime_30, dX1_weightInTime_32, dX1_weightInTime_35, dX1_weightInTime_37, dX1_weightInTime_38, dX1_weightInTime_39, dX1_weightInTime_40, dX1_weightInTime_42, dX1_weightInTime_43, dX1_weightInTime_46, dX1_weightInTime_47, dX1_weightInTime_49, dX1_weightInTime_51, dX1_weightInTime_54, dX1_weightInTime_55, dX1_weightInTime_57, dX1_weightInTime_58, dX1_weightInTime_61, dX1_weightInTime_64, dX1_weightInTime_66, dX1_weightInTime_68, dX1_weightInTime_69, dX1_weightInTime_71, dX1_weightInTime_74, dX1_weightInTime_77, dX1_weightInTime_79, ca_X1_weightInTime_53, ca_X1_weightInTime_56, ca_X1_weightInTime_62, ca_X1_weightInTime_66, e_aload_n0, e_calls, e_callv, e_getfield, e_iadd, e_iload4, e_iload5, e_iload6, e_iload7, e_iload_n1, e_iload_n2, e_iload_n3, e_imul, e_ireturn, e_ishl, e_istore4i, e_istore4n, e_istore4r, e_istore5i, e_istore5n, e_istore5r, e_istore6i, e_istore6n, e_istore6r, e_istore7i, e_istore7n, e_istore7r, e_istore_n3i, e_istore_n3n, e_istore_n3r, e_isub, gf_X1_18_20, j_bp_10, j_goto_74_m60, j_ic_0, j_ic_1, j_icmp_ge_19_58, j_if_eq_61_10, j_if_le_51_20, j_ii_5_1, q_J6_bitCount_0f7a4, q_X8_power, ipq_w23, ab_rn, bi_0, bi_1, ite_not]
    rw [if_pos (n2_lt (by omega)), nI_1]
    have e : pw_X t (bc_X (nI i)).toNatClampNeg * pw_X (10 - t) (w - bc_X (nI i)).toNatClampNeg = ch_X t w i := rfl
    rw [e]
    by_cases h2 : 0 < ch_X t w i
    · rw [if_pos h2]
      refine ⟨hx, fun s => ?_⟩
      by_cases h3 : ip_n M (nI i) x.toNatClampNeg = 0
      · rw [if_pos h3]
        rw [if_neg (fun hh => hh.2 h3)] at h
        exact ih (i + 1) _ _ _ _ _ _ _ (by omega) h
      · rw [if_neg h3]
        rw [if_pos ⟨h2, h3⟩] at h
        exact ih (i + 1) _ _ _ _ _ _ _ (by omega) h
    · rw [if_neg h2]
      rw [if_neg (fun hh => h2 hh.1)] at h
      exact ih (i + 1) _ _ _ _ _ _ _ (by omega) h
set_option maxRecDepth 20000 in
set_option maxHeartbeats 4000000 in
theorem lp_X1_weightInTime {G : ab_K} {Po : ab_P} (hG : ab_Clo cX1_weightInTime x_X1_weightInTime Po G) {M : ab_M} {m d p x t : Int32} {f : Nat → Int32} (hx : ¬ x < 0) (h : ∀ s : mr_T, Po (some (.int (wi_l M x.toNatClampNeg t (M.1 8 3) (n2_X (M.1 8 3)) 0 0))) (mws M 23 s)) : G 0 [some (.ref 20), some (.int x), some (.int t), none, none, none, none, none] [] (mw M 23 m d p f) := by
  refine ab_go hG [14] 80 _ _ _ _ ?_
  simp (decide := true) only [ew_s, ew_0, Option.toList_some, Option.toList_none, List.cons_append, List.nil_append, true_and, and_true, List.length_cons, List.length_nil, Nat.reduceAdd, Nat.reduceLeDiff, Int32.reduceAdd, Int32.reduceSub, Int32.reduceMul, Int32.reduceLT, Int32.reduceLE, ↓reduceIte, and_self, si_1, si_2, sl_1, sl_2, false_and, and_false, dX1_weightInTime_0, dX1_weightInTime_1, dX1_weightInTime_4, dX1_weightInTime_7, dX1_weightInTime_8, dX1_weightInTime_9, dX1_weightInTime_11, dX1_weightInTime_12, dX1_weightInTime_14, dX1_weightInTime_16, dX1_weightInTime_17, dX1_weightInTime_18, dX1_weightInTime_19, dX1_weightInTime_22, dX1_weightInTime_24, dX1_weightInTime_27, dX1_weightInTime_29, dX1_weightInTime_30, dX1_weightInTime_32, dX1_weightInTime_35, dX1_weightInTime_37, dX1_weightInTime_38, dX1_weightInTime_39, dX1_weightInTime_40, dX1_weightInTime_42, dX1_weightInTime_43, dX1_weightInTime_46, dX1_weightInTime_47, dX1_weightInTime_49, dX1_weightInTime_51, dX1_weightInTime_54, dX1_weightInTime_55, dX1_weightInTime_57, dX1_weightInTime_58, dX1_weightInTime_61, dX1_weightInTime_64, dX1_weightInTime_66, dX1_weightInTime_68, dX1_weightInTime_69, dX1_weightInTime_71, dX1_weightInTime_74, dX1_weightInTime_77, dX1_weightInTime_79, ca_X1_weightInTime_53, ca_X1_weightInTime_56, ca_X1_weightInTime_62, ca_X1_weightInTime_66, e_aload_n0, e_calls, e_callv, e_getfield, e_iadd, e_iload4, e_iload5, e_iload6, e_iload7, e_iload_n1, e_iload_n2, e_iload_n3, e_imul, e_ireturn, e_ishl, e_istore4i, e_istore4n, e_istore4r, e_istore5i, e_istore5n, e_istore5r, e_istore6i, e_istore6n, e_istore6r, e_istore7i, e_istore7n, e_istore7r, e_istore_n3i, e_istore_n3n, e_istore_n3r, e_isub, gf_X1_18_20, j_bp_10, j_goto_74_m60, j_ic_0, j_ic_1, j_icmp_ge_19_58, j_if_eq_61_10, j_if_le_51_20, j_ii_5_1, q_J6_bitCount_0f7a4, q_X1_isInTimePricked, q_X8_power, qm_w23, ab_rn, bi_0, bi_1, ite_not]
  exact lq_X1_weightInTime hG hx _ 0 _ _ _ _ _ _ _ (by omega) h
set_option maxRecDepth 20000 in
set_option maxHeartbeats 4000000 in
theorem c_X1_weightInTime {l : Launch} : ab_ctr l yX1_weightInTime cX1_weightInTime 8 (some .int) 5 117 s_X1_weightInTime := by
  refine ab_met x_X1_weightInTime (by decide) rfl fo_X1 ko_X1 so_X1 rfl (ab_cs_cons (ab_kV c_X2_menCount ml_X1_53 v_X2_menCount ⟨rfl, rfl⟩ r_X2_menCount) (ab_cs_cons (ab_kS c_J6_bitCount_0f7a4 ml_X1_56 v_J6_bitCount_0f7a4 ⟨rfl, rfl⟩) (ab_cs_cons (ab_kN c_X8_power ml_X1_62 v_X8_power ⟨rfl, rfl⟩) (ab_cs_cons (ab_kV c_X1_isInTimePricked ml_X1_66 v_X1_isInTimePricked ⟨rfl, rfl⟩ r_X1_isInTimePricked) ab_cs_nil)))) ?_ ?_
  · intro as M Po h
    unfold s_X1_weightInTime at h
    split at h
    · simp [ab_e0]
    · exact h.elim
  · intro as M Po h G hG
    unfold s_X1_weightInTime at h
    split at h
    · simp only [ab_en, ab_e0, List.length_cons, List.length_nil, Nat.reduceAdd, Nat.reduceSub, List.replicate, List.cons_append, List.nil_append]
      have key := lp_X1_weightInTime hG (m := M.1 23 3) (d := M.1 23 4) (p := M.1 23 5) (f := M.1 24) h.1 h.2
      rw [show mw M 23 (M.1 23 3) (M.1 23 4) (M.1 23 5) (M.1 24) = M from mw_id] at key
      exact key
    · exact h.elim

