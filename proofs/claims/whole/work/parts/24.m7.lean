/-! METHODS: March, days, halts, follow, packed -/
theorem dy_w12 {M : ab_M} {m d p : Int32} {f : Nat → Int32} : dy_X (mw M 12 m d p f) = dy_X M := by
  funext s
  simp only [dy_X, gone_X, thd_X, by_X, gr_X, w_pc12, w_kd12, w_sa12, w_go12, w_pr12, w_ld12, w_he12, w_o35_12]
  rfl
theorem gone_w12 {M : ab_M} {m d p : Int32} {f : Nat → Int32} : gone_X (mw M 12 m d p f) = gone_X M := by
  funext s
  simp only [gone_X, by_X, gr_X, w_pc12, w_kd12, w_sa12, w_go12, w_ld12, w_o35_12]
  rfl
theorem mrs_w12 {M : ab_M} {m d p : Int32} {f : Nat → Int32} : mrs (mw M 12 m d p f) 12 = (m, d, p, f) := mrs_mws (s := (m, d, p, f))
theorem mws_w12 {M : ab_M} {m d p : Int32} {f : Nat → Int32} {s : mr_T} : mws (mw M 12 m d p f) 12 s = mws M 12 s := mws_mws (s := (m, d, p, f))
theorem gq_w12 {M : ab_M} {m d p : Int32} {f : Nat → Int32} {Po : ab_P} : s_X2_goDay [.ref 12] (mw M 12 m d p f) Po = Po (some (.int (gone_X M (m, d, p, f)))) (mws M 12 (dy_X M (m, d, p, f))) := by
  rw [q_X2_goDay, dy_w12, gone_w12, mrs_w12, mws_w12]
  simp
theorem dy_w18 {M : ab_M} {m d p : Int32} {f : Nat → Int32} : dy_X (mw M 18 m d p f) = dy_X M := by
  funext s
  simp only [dy_X, gone_X, thd_X, by_X, gr_X, w_pc18, w_kd18, w_sa18, w_go18, w_pr18, w_ld18, w_he18, w_o35_18]
  rfl
theorem gone_w18 {M : ab_M} {m d p : Int32} {f : Nat → Int32} : gone_X (mw M 18 m d p f) = gone_X M := by
  funext s
  simp only [gone_X, by_X, gr_X, w_pc18, w_kd18, w_sa18, w_go18, w_ld18, w_o35_18]
  rfl
theorem mrs_w18 {M : ab_M} {m d p : Int32} {f : Nat → Int32} : mrs (mw M 18 m d p f) 18 = (m, d, p, f) := mrs_mws (s := (m, d, p, f))
theorem mws_w18 {M : ab_M} {m d p : Int32} {f : Nat → Int32} {s : mr_T} : mws (mw M 18 m d p f) 18 s = mws M 18 s := mws_mws (s := (m, d, p, f))
theorem gq_w18 {M : ab_M} {m d p : Int32} {f : Nat → Int32} {Po : ab_P} : s_X2_goDay [.ref 18] (mw M 18 m d p f) Po = Po (some (.int (gone_X M (m, d, p, f)))) (mws M 18 (dy_X M (m, d, p, f))) := by
  rw [q_X2_goDay, dy_w18, gone_w18, mrs_w18, mws_w18]
  simp
theorem dy_w23 {M : ab_M} {m d p : Int32} {f : Nat → Int32} : dy_X (mw M 23 m d p f) = dy_X M := by
  funext s
  simp only [dy_X, gone_X, thd_X, by_X, gr_X, w_pc23, w_kd23, w_sa23, w_go23, w_pr23, w_ld23, w_he23, w_o35_23]
  rfl
theorem gone_w23 {M : ab_M} {m d p : Int32} {f : Nat → Int32} : gone_X (mw M 23 m d p f) = gone_X M := by
  funext s
  simp only [gone_X, by_X, gr_X, w_pc23, w_kd23, w_sa23, w_go23, w_ld23, w_o35_23]
  rfl
theorem mrs_w23 {M : ab_M} {m d p : Int32} {f : Nat → Int32} : mrs (mw M 23 m d p f) 23 = (m, d, p, f) := mrs_mws (s := (m, d, p, f))
theorem mws_w23 {M : ab_M} {m d p : Int32} {f : Nat → Int32} {s : mr_T} : mws (mw M 23 m d p f) 23 s = mws M 23 s := mws_mws (s := (m, d, p, f))
theorem gq_w23 {M : ab_M} {m d p : Int32} {f : Nat → Int32} {Po : ab_P} : s_X2_goDay [.ref 23] (mw M 23 m d p f) Po = Po (some (.int (gone_X M (m, d, p, f)))) (mws M 23 (dy_X M (m, d, p, f))) := by
  rw [q_X2_goDay, dy_w23, gone_w23, mrs_w23, mws_w23]
  simp
def st_X (M : ab_M) (s : mr_T) : mr_T := (s.1, s.2.1 + 1, s.2.2.1, he_X M s.2.2.2)
def its_X (M : ab_M) : Nat → mr_T → mr_T
  | 0, s => s
  | n + 1, s => dy_X M (its_X M n s)
/-- in how many days they are there: so many are left, so many are gone -/
def ge_X (M : ab_M) : Nat → Nat → mr_T → Int32 × mr_T
  | 0, k, s => (if s.1 < M.1 3 5 then -9 else nI k, s)
  | n + 1, k, s => if s.1 < M.1 3 5 then ge_X M n (k + 1) (dy_X M s) else (nI k, s)
def eas_X (M : ab_M) (x : Int32) : Nat → (Nat → Int32) → (Nat → Int32)
  | 0, f => f
  | n + 1, f => ea_X M (eas_X M x n f) x
def s_X2_stay : ab_Sem := fun as M Po => match as with
  | [.ref q] => (q = 12 ∨ q = 18 ∨ q = 23) ∧ Po none (mws M q (st_X M (mrs M q)))
  | _ => False
theorem q_X2_stay {q : Nat} {M : ab_M} {Po : ab_P} : s_X2_stay [.ref q] M Po = ((q = 12 ∨ q = 18 ∨ q = 23) ∧ Po none (mws M q (st_X M (mrs M q)))) := rfl
abbrev x_X2_stay : ab_X := (none, fl_X2, [(210, 1, s_X2_healAll)], kl_X2, gs_X2, ab_ros)
theorem ca_X2_stay_105 {v0 : Value} {st : List Value} {M : ab_M} {k : List Value → ab_M → Prop} : ab_ca x_X2_stay (2 * 105) (v0 :: st) M k = (st.length ≤ 4 ∧ s_X2_healAll [v0] M (fun r M' => k (r.toList ++ st) M')) := rfl
theorem r_X2_stay : ∀ (as : List Value) (M : ab_M) (Po : ab_P), s_X2_stay as M Po → ∃ (q : Nat) (as' : List Value) (ci : Nat) (T : u_T) (N : Nat) (fs : List ab_F), as = .ref q :: as' ∧ ab_sh[q]? = some (.inl (ci, fs)) ∧ vwCl[ci]? = some (yX2_stay.cls, T, N) := by
  intro as M Po h
  unfold s_X2_stay at h
  split at h
  · first | exact ⟨_, _, 2, _, _, _, rfl, rfl, rfl⟩ | (rcases h.1 with rfl | rfl | rfl <;> exact ⟨_, _, 2, _, _, _, rfl, rfl, rfl⟩)
  · exact h.elim
set_option maxRecDepth 20000 in
set_option maxHeartbeats 4000000 in
theorem lp_X2_stay {G : ab_K} {Po : ab_P} (hG : ab_Clo cX2_stay x_X2_stay Po G) {M : ab_M} {q : Nat} (hq : q = 12 ∨ q = 18 ∨ q = 23) {m d p : Int32} {f : Nat → Int32} (h : Po none (mws M q (st_X M (m, d, p, f)))) : G 0 [some (.ref q)] [] (mw M q m d p f) := by
  simp only [mws, st_X] at h
  rcases hq with rfl | rfl | rfl
  all_goals
    refine ab_go hG [] 80 _ _ _ _ ?_
    simp (decide := true) only [ew_n, ew_0, Option.toList_some, Option.toList_none, List.cons_append, List.nil_append, true_and, and_true, List.length_cons, List.length_nil, Nat.reduceAdd, Nat.reduceLeDiff, Int32.reduceAdd, Int32.reduceSub, Int32.reduceMul, Int32.reduceLT, Int32.reduceLE, Int32.reduceToNatClampNeg, ↓reduceIte, and_self, si_1, si_2, sl_1, sl_2, false_and, and_false, dX2_stay_0, dX2_stay_1, dX2_stay_4, dX2_stay_5, dX2_stay_6, dX2_stay_9, dX2_stay_10, dX2_stay_11, dX2_stay_14, ca_X2_stay_105, e_aload_n0, e_callv, e_dupi, e_dupr, e_getfield, e_iadd, e_putfield, e_return, gf_X2_30_12, gf_X2_30_18, gf_X2_30_23, j_ic_1, pf_X2_30_12, pf_X2_30_18, pf_X2_30_23, q_X2_healAll, w_rt12, w_pc12, w_kd12, w_nm12, w_td12, w_sa12, w_go12, w_pr12, w_ea12, w_ld12, w_he12, w_th12, w_si12, w_wt12, w_o35_12, w_o34_12, w_o83_12, w_rt18, w_pc18, w_kd18, w_nm18, w_td18, w_sa18, w_go18, w_pr18, w_ea18, w_ld18, w_he18, w_th18, w_si18, w_wt18, w_o35_18, w_o34_18, w_o83_18, w_rt23, w_pc23, w_kd23, w_nm23, w_td23, w_sa23, w_go23, w_pr23, w_ea23, w_ld23, w_he23, w_th23, w_si23, w_wt23, w_o35_23, w_o34_23, w_o83_23, mw_3, mw_4, mw_5, mw_r3, mw_r4, mw_r5, pr_ite, ea_ite, ab_rn, bi_0, bi_1, ite_not]
    exact h
set_option maxRecDepth 20000 in
set_option maxHeartbeats 4000000 in
theorem c_X2_stay {l : Launch} : ab_ctr l yX2_stay cX2_stay 1 none 2 42 s_X2_stay := by
  refine ab_met x_X2_stay (by decide) rfl fo_X2 ko_X2 so_X2 rfl (ab_cs_cons (ab_kV c_X2_healAll ml_X2_105 v_X2_healAll ⟨rfl, rfl⟩ r_X2_healAll) ab_cs_nil) ?_ ?_
  · intro as M Po h
    unfold s_X2_stay at h
    split at h
    · simp [ab_e0]
    · exact h.elim
  · intro as M Po h G hG
    unfold s_X2_stay at h
    split at h
    · simp only [ab_en, ab_e0, List.length_cons, List.length_nil, Nat.reduceAdd, Nat.reduceSub, List.replicate, List.cons_append, List.nil_append]
      rename_i q
      obtain ⟨hq, h⟩ := h
      have key := lp_X2_stay hG hq (m := M.1 q 3) (d := M.1 q 4) (p := M.1 q 5) (f := M.1 (q + 1)) h
      rw [mw_id] at key
      exact key
    · exact h.elim

def s_X2_goDays : ab_Sem := fun as M Po => match as with
  | [.ref q, .int x] => (q = 12 ∨ q = 18 ∨ q = 23) ∧ Po none (mws M q (its_X M x.toNatClampNeg (mrs M q)))
  | _ => False
theorem q_X2_goDays {q : Nat} {x : Int32} {M : ab_M} {Po : ab_P} : s_X2_goDays [.ref q, .int x] M Po = ((q = 12 ∨ q = 18 ∨ q = 23) ∧ Po none (mws M q (its_X M x.toNatClampNeg (mrs M q)))) := rfl
abbrev x_X2_goDays : ab_X := (none, fl_X2, [(222, 1, s_X2_goDay)], kl_X2, gs_X2, ab_ros)
theorem ca_X2_goDays_111 {v0 : Value} {st : List Value} {M : ab_M} {k : List Value → ab_M → Prop} : ab_ca x_X2_goDays (2 * 111) (v0 :: st) M k = (st.length ≤ 4 ∧ s_X2_goDay [v0] M (fun r M' => k (r.toList ++ st) M')) := rfl
theorem r_X2_goDays : ∀ (as : List Value) (M : ab_M) (Po : ab_P), s_X2_goDays as M Po → ∃ (q : Nat) (as' : List Value) (ci : Nat) (T : u_T) (N : Nat) (fs : List ab_F), as = .ref q :: as' ∧ ab_sh[q]? = some (.inl (ci, fs)) ∧ vwCl[ci]? = some (yX2_goDays.cls, T, N) := by
  intro as M Po h
  unfold s_X2_goDays at h
  split at h
  · first | exact ⟨_, _, 2, _, _, _, rfl, rfl, rfl⟩ | (rcases h.1 with rfl | rfl | rfl <;> exact ⟨_, _, 2, _, _, _, rfl, rfl, rfl⟩)
  · exact h.elim
set_option maxRecDepth 20000 in
set_option maxHeartbeats 4000000 in
theorem lq_X2_goDays {G : ab_K} {Po : ab_P} (hG : ab_Clo cX2_goDays x_X2_goDays Po G) {M : ab_M} {q : Nat} (hq : q = 12 ∨ q = 18 ∨ q = 23) {s : mr_T} {n : Nat} (hn : n < 2 ^ 31) (h : Po none (mws M q (its_X M n s))) : ∀ j i : Nat, i + j = n → G 2 [some (.ref q), some (.int (nI n)), some (.int (nI i))] [] (mws M q (its_X M i s)) := by
  intro j
  induction j with
  | zero =>
    intro i hi
    have e : i = n := by omega
    subst e
    rcases hq with rfl | rfl | rfl
    all_goals
      refine ab_go1 hG [2] 80 _ _ _ _ ?_
      simp (decide := true) only [ew_s, ew_0, Option.toList_some, Option.toList_none, List.cons_append, List.nil_append, true_and, and_true, List.length_cons, List.length_nil, Nat.reduceAdd, Nat.reduceLeDiff, Int32.reduceAdd, Int32.reduceSub, Int32.reduceMul, Int32.reduceLT, Int32.reduceLE, Int32.reduceToNatClampNeg, ↓reduceIte, and_self, si_1, si_2, sl_1, sl_2, false_and, and_false, dX2_goDays_0, dX2_goDays_1, dX2_goDays_2, dX2_goDays_3, dX2_goDays_4, dX2_goDays_7, dX2_goDays_8, dX2_goDays_11, dX2_goDays_12, dX2_goDays_15, dX2_goDays_18, ca_X2_goDays_111, e_aload_n0, e_callv, e_iload_n1, e_iload_n2, e_istore_n2i, e_istore_n2n, e_istore_n2r, e_pop, e_return, j_goto_15_m13, j_ic_0, j_icmp_ge_4_14, j_ii_2_1, ab_rn, bi_0, bi_1, ite_not]
      rw [if_neg (nI_nlt (Nat.le_refl i) hn)]
      exact h
  | succ j ih =>
    intro i hi
    have ih1 := ih (i + 1) (by omega)
    rcases hq with rfl | rfl | rfl
    all_goals
      simp only [mws] at ih1 ⊢
      refine ab_go1 hG [2] 80 _ _ _ _ ?_
      simp (decide := true) only [ew_s, ew_0, Option.toList_some, Option.toList_none, List.cons_append, List.nil_append, true_and, and_true, List.length_cons, List.length_nil, Nat.reduceAdd, Nat.reduceLeDiff, Int32.reduceAdd, Int32.reduceSub, Int32.reduceMul, Int32.reduceLT, Int32.reduceLE, Int32.reduceToNatClampNeg, ↓reduceIte, and_self, si_1, si_2, sl_1, sl_2, false_and, and_false, dX2_goDays_0, dX2_goDays_1, dX2_goDays_2, dX2_goDays_3, dX2_goDays_4, dX2_goDays_7, dX2_goDays_8, dX2_goDays_11, dX2_goDays_12, dX2_goDays_15, dX2_goDays_18, ca_X2_goDays_111, e_aload_n0, e_callv, e_iload_n1, e_iload_n2, e_istore_n2i, e_istore_n2n, e_istore_n2r, e_pop, e_return, j_goto_15_m13, j_ic_0, j_icmp_ge_4_14, j_ii_2_1, gq_w12, gq_w18, gq_w23, mws, ab_rn, bi_0, bi_1, ite_not]
      rw [if_pos (nI_lt (by omega) hn), nI_1]
      exact ih1
set_option maxRecDepth 20000 in
set_option maxHeartbeats 4000000 in
theorem c_X2_goDays {l : Launch} : ab_ctr l yX2_goDays cX2_goDays 3 none 3 72 s_X2_goDays := by
  refine ab_met x_X2_goDays (by decide) rfl fo_X2 ko_X2 so_X2 rfl (ab_cs_cons (ab_kV c_X2_goDay ml_X2_111 v_X2_goDay ⟨rfl, rfl⟩ r_X2_goDay) ab_cs_nil) ?_ ?_
  · intro as M Po h
    unfold s_X2_goDays at h
    split at h
    · simp [ab_e0]
    · exact h.elim
  · intro as M Po h G hG
    unfold s_X2_goDays at h
    split at h
    · simp only [ab_en, ab_e0, List.length_cons, List.length_nil, Nat.reduceAdd, Nat.reduceSub, List.replicate, List.cons_append, List.nil_append]
      rename_i q x
      obtain ⟨hq, h⟩ := h
      by_cases ht : x < 0
      · rw [tn_neg ht, its_X, mws_id] at h
        have hx : ¬ 0 < x := fun h2 => by have h3 := Int32.lt_iff_toInt_lt.mp h2; have h4 := Int32.lt_iff_toInt_lt.mp ht; omega
        rcases hq with rfl | rfl | rfl
        all_goals
          refine ab_go hG [] 8 _ _ _ _ ?_
          simp (decide := true) only [ew_n, ew_0, Option.toList_some, Option.toList_none, List.cons_append, List.nil_append, true_and, and_true, List.length_cons, List.length_nil, Nat.reduceAdd, Nat.reduceLeDiff, Int32.reduceAdd, Int32.reduceSub, Int32.reduceMul, Int32.reduceLT, Int32.reduceLE, Int32.reduceToNatClampNeg, ↓reduceIte, and_self, si_1, si_2, sl_1, sl_2, false_and, and_false, dX2_goDays_0, dX2_goDays_1, dX2_goDays_2, dX2_goDays_3, dX2_goDays_4, dX2_goDays_7, dX2_goDays_8, dX2_goDays_11, dX2_goDays_12, dX2_goDays_15, dX2_goDays_18, ca_X2_goDays_111, e_aload_n0, e_callv, e_iload_n1, e_iload_n2, e_istore_n2i, e_istore_n2n, e_istore_n2r, e_pop, e_return, j_goto_15_m13, j_ic_0, j_icmp_ge_4_14, j_ii_2_1, ab_rn, bi_0, bi_1, ite_not]
          rw [if_neg hx]
          exact h
      · obtain ⟨n, hn, rfl⟩ := nI_of ht
        rw [nI_clamp hn] at h
        have key := lq_X2_goDays hG hq hn h n 0 (by omega)
        rw [its_X, mws_id] at key
        rcases hq with rfl | rfl | rfl
        all_goals
          refine ab_go hG [2] 8 _ _ _ _ ?_
          simp (decide := true) only [ew_s, ew_0, Option.toList_some, Option.toList_none, List.cons_append, List.nil_append, true_and, and_true, List.length_cons, List.length_nil, Nat.reduceAdd, Nat.reduceLeDiff, Int32.reduceAdd, Int32.reduceSub, Int32.reduceMul, Int32.reduceLT, Int32.reduceLE, Int32.reduceToNatClampNeg, ↓reduceIte, and_self, si_1, si_2, sl_1, sl_2, false_and, and_false, dX2_goDays_0, dX2_goDays_1, dX2_goDays_2, dX2_goDays_3, dX2_goDays_4, dX2_goDays_7, dX2_goDays_8, dX2_goDays_11, dX2_goDays_12, dX2_goDays_15, dX2_goDays_18, ca_X2_goDays_111, e_aload_n0, e_callv, e_iload_n1, e_iload_n2, e_istore_n2i, e_istore_n2n, e_istore_n2r, e_pop, e_return, j_goto_15_m13, j_ic_0, j_icmp_ge_4_14, j_ii_2_1, ab_rn, bi_0, bi_1, ite_not]
          exact key
    · exact h.elim

def s_X2_goToEnd : ab_Sem := fun as M Po => match as with
  | [.ref q, .int x] => (q = 12 ∨ q = 18 ∨ q = 23) ∧ ¬ x < 0 ∧ Po (some (.int (ge_X M x.toNatClampNeg 0 (mrs M q)).1)) (mws M q (ge_X M x.toNatClampNeg 0 (mrs M q)).2)
  | _ => False
theorem q_X2_goToEnd {q : Nat} {x : Int32} {M : ab_M} {Po : ab_P} : s_X2_goToEnd [.ref q, .int x] M Po = ((q = 12 ∨ q = 18 ∨ q = 23) ∧ ¬ x < 0 ∧ Po (some (.int (ge_X M x.toNatClampNeg 0 (mrs M q)).1)) (mws M q (ge_X M x.toNatClampNeg 0 (mrs M q)).2)) := rfl
abbrev x_X2_goToEnd : ab_X := (some .int, fl_X2, [(166, 1, s_X2_isThere), (222, 1, s_X2_goDay)], kl_X2, gs_X2, ab_ros)
theorem ca_X2_goToEnd_83 {v0 : Value} {st : List Value} {M : ab_M} {k : List Value → ab_M → Prop} : ab_ca x_X2_goToEnd (2 * 83) (v0 :: st) M k = (st.length ≤ 4 ∧ s_X2_isThere [v0] M (fun r M' => k (r.toList ++ st) M')) := rfl
theorem ca_X2_goToEnd_111 {v0 : Value} {st : List Value} {M : ab_M} {k : List Value → ab_M → Prop} : ab_ca x_X2_goToEnd (2 * 111) (v0 :: st) M k = (st.length ≤ 4 ∧ s_X2_goDay [v0] M (fun r M' => k (r.toList ++ st) M')) := rfl
theorem r_X2_goToEnd : ∀ (as : List Value) (M : ab_M) (Po : ab_P), s_X2_goToEnd as M Po → ∃ (q : Nat) (as' : List Value) (ci : Nat) (T : u_T) (N : Nat) (fs : List ab_F), as = .ref q :: as' ∧ ab_sh[q]? = some (.inl (ci, fs)) ∧ vwCl[ci]? = some (yX2_goToEnd.cls, T, N) := by
  intro as M Po h
  unfold s_X2_goToEnd at h
  split at h
  · first | exact ⟨_, _, 2, _, _, _, rfl, rfl, rfl⟩ | (rcases h.1 with rfl | rfl | rfl <;> exact ⟨_, _, 2, _, _, _, rfl, rfl, rfl⟩)
  · exact h.elim
set_option maxRecDepth 20000 in
set_option maxHeartbeats 4000000 in
theorem lq_X2_goToEnd {G : ab_K} {Po : ab_P} (hG : ab_Clo cX2_goToEnd x_X2_goToEnd Po G) {M : ab_M} {q : Nat} (hq : q = 12 ∨ q = 18 ∨ q = 23) {n : Nat} (hn : n < 2 ^ 31) : ∀ (j i : Nat) (s : mr_T), i + j = n → Po (some (.int (ge_X M j i s).1)) (mws M q (ge_X M j i s).2) → G 2 [some (.ref q), some (.int (nI n)), some (.int (nI i))] [] (mws M q s) := by
  intro j
  induction j with
  | zero =>
    intro i s hi h
    have e : i = n := by omega
    subst e
    simp only [ge_X] at h
    rcases hq with rfl | rfl | rfl
    all_goals
      simp only [mws] at h ⊢
      refine ab_go1 hG [2] 80 _ _ _ _ ?_
      simp (decide := true) only [ew_s, ew_0, Option.toList_some, Option.toList_none, List.cons_append, List.nil_append, true_and, and_true, List.length_cons, List.length_nil, Nat.reduceAdd, Nat.reduceLeDiff, Int32.reduceAdd, Int32.reduceSub, Int32.reduceMul, Int32.reduceLT, Int32.reduceLE, Int32.reduceToNatClampNeg, ↓reduceIte, and_self, si_1, si_2, sl_1, sl_2, false_and, and_false, dX2_goToEnd_0, dX2_goToEnd_1, dX2_goToEnd_2, dX2_goToEnd_3, dX2_goToEnd_4, dX2_goToEnd_7, dX2_goToEnd_8, dX2_goToEnd_11, dX2_goToEnd_14, dX2_goToEnd_15, dX2_goToEnd_16, dX2_goToEnd_17, dX2_goToEnd_20, dX2_goToEnd_21, dX2_goToEnd_24, dX2_goToEnd_27, dX2_goToEnd_28, dX2_goToEnd_31, dX2_goToEnd_34, dX2_goToEnd_35, dX2_goToEnd_38, dX2_goToEnd_40, ca_X2_goToEnd_111, ca_X2_goToEnd_83, e_aload_n0, e_callv, e_iload_n1, e_iload_n2, e_ireturn, e_istore_n2i, e_istore_n2n, e_istore_n2r, e_pop, j_bp_m9, j_goto_24_m22, j_goto_35_5, j_ic_0, j_icmp_ge_4_23, j_if_eq_11_5, j_if_eq_31_7, j_ii_2_1, q_X2_isThere, gq_w12, gq_w18, gq_w23, mws, w_rt12, w_pc12, w_kd12, w_nm12, w_td12, w_sa12, w_go12, w_pr12, w_ea12, w_ld12, w_he12, w_th12, w_si12, w_wt12, w_o35_12, w_o34_12, w_o83_12, w_rt18, w_pc18, w_kd18, w_nm18, w_td18, w_sa18, w_go18, w_pr18, w_ea18, w_ld18, w_he18, w_th18, w_si18, w_wt18, w_o35_18, w_o34_18, w_o83_18, w_rt23, w_pc23, w_kd23, w_nm23, w_td23, w_sa23, w_go23, w_pr23, w_ea23, w_ld23, w_he23, w_th23, w_si23, w_wt23, w_o35_23, w_o34_23, w_o83_23, mw_3, mw_4, mw_5, mw_r3, mw_r4, mw_r5, pr_ite, ea_ite, Classical.not_not, ab_rn, bi_0, bi_1, ite_not]
      rw [if_neg (nI_nlt (Nat.le_refl i) hn)]
      split
      · rename_i h2
        rw [if_pos h2] at h
        exact h
      · rename_i h2
        rw [if_neg h2] at h
        exact h
  | succ j ih =>
    intro i s hi h
    unfold ge_X at h
    have ih1 := ih (i + 1) (dy_X M s) (by omega)
    rcases hq with rfl | rfl | rfl
    all_goals
      simp only [mws] at ih1 h ⊢
      refine ab_go1 hG [2] 80 _ _ _ _ ?_
      simp (decide := true) only [ew_s, ew_0, Option.toList_some, Option.toList_none, List.cons_append, List.nil_append, true_and, and_true, List.length_cons, List.length_nil, Nat.reduceAdd, Nat.reduceLeDiff, Int32.reduceAdd, Int32.reduceSub, Int32.reduceMul, Int32.reduceLT, Int32.reduceLE, Int32.reduceToNatClampNeg, ↓reduceIte, and_self, si_1, si_2, sl_1, sl_2, false_and, and_false, dX2_goToEnd_0, dX2_goToEnd_1, dX2_goToEnd_2, dX2_goToEnd_3, dX2_goToEnd_4, dX2_goToEnd_7, dX2_goToEnd_8, dX2_goToEnd_11, dX2_goToEnd_14, dX2_goToEnd_15, dX2_goToEnd_16, dX2_goToEnd_17, dX2_goToEnd_20, dX2_goToEnd_21, dX2_goToEnd_24, dX2_goToEnd_27, dX2_goToEnd_28, dX2_goToEnd_31, dX2_goToEnd_34, dX2_goToEnd_35, dX2_goToEnd_38, dX2_goToEnd_40, ca_X2_goToEnd_111, ca_X2_goToEnd_83, e_aload_n0, e_callv, e_iload_n1, e_iload_n2, e_ireturn, e_istore_n2i, e_istore_n2n, e_istore_n2r, e_pop, j_bp_m9, j_goto_24_m22, j_goto_35_5, j_ic_0, j_icmp_ge_4_23, j_if_eq_11_5, j_if_eq_31_7, j_ii_2_1, q_X2_isThere, gq_w12, gq_w18, gq_w23, mws, w_rt12, w_pc12, w_kd12, w_nm12, w_td12, w_sa12, w_go12, w_pr12, w_ea12, w_ld12, w_he12, w_th12, w_si12, w_wt12, w_o35_12, w_o34_12, w_o83_12, w_rt18, w_pc18, w_kd18, w_nm18, w_td18, w_sa18, w_go18, w_pr18, w_ea18, w_ld18, w_he18, w_th18, w_si18, w_wt18, w_o35_18, w_o34_18, w_o83_18, w_rt23, w_pc23, w_kd23, w_nm23, w_td23, w_sa23, w_go23, w_pr23, w_ea23, w_ld23, w_he23, w_th23, w_si23, w_wt23, w_o35_23, w_o34_23, w_o83_23, mw_3, mw_4, mw_5, mw_r3, mw_r4, mw_r5, pr_ite, ea_ite, Classical.not_not, ab_rn, bi_0, bi_1, ite_not]
      rw [if_pos (nI_lt (by omega) hn), nI_1]
      split
      · rename_i h2
        rw [if_pos h2] at h
        exact ih1 h
      · rename_i h2
        rw [if_neg h2] at h
        exact h
set_option maxRecDepth 20000 in
set_option maxHeartbeats 4000000 in
theorem c_X2_goToEnd {l : Launch} : ab_ctr l yX2_goToEnd cX2_goToEnd 3 (some .int) 3 72 s_X2_goToEnd := by
  refine ab_met x_X2_goToEnd (by decide) rfl fo_X2 ko_X2 so_X2 rfl (ab_cs_cons (ab_kV c_X2_isThere ml_X2_83 v_X2_isThere ⟨rfl, rfl⟩ r_X2_isThere) (ab_cs_cons (ab_kV c_X2_goDay ml_X2_111 v_X2_goDay ⟨rfl, rfl⟩ r_X2_goDay) ab_cs_nil)) ?_ ?_
  · intro as M Po h
    unfold s_X2_goToEnd at h
    split at h
    · simp [ab_e0]
    · exact h.elim
  · intro as M Po h G hG
    unfold s_X2_goToEnd at h
    split at h
    · simp only [ab_en, ab_e0, List.length_cons, List.length_nil, Nat.reduceAdd, Nat.reduceSub, List.replicate, List.cons_append, List.nil_append]
      rename_i q x
      obtain ⟨hq, ht, h⟩ := h
      obtain ⟨n, hn, rfl⟩ := nI_of ht
      rw [nI_clamp hn] at h
      have key := lq_X2_goToEnd hG hq hn n 0 (mrs M q) (by omega) h
      rw [mws_id] at key
      rcases hq with rfl | rfl | rfl
      all_goals
        refine ab_go hG [2] 8 _ _ _ _ ?_
        simp (decide := true) only [ew_s, ew_0, Option.toList_some, Option.toList_none, List.cons_append, List.nil_append, true_and, and_true, List.length_cons, List.length_nil, Nat.reduceAdd, Nat.reduceLeDiff, Int32.reduceAdd, Int32.reduceSub, Int32.reduceMul, Int32.reduceLT, Int32.reduceLE, Int32.reduceToNatClampNeg, ↓reduceIte, and_self, si_1, si_2, sl_1, sl_2, false_and, and_false, dX2_goToEnd_0, dX2_goToEnd_1, dX2_goToEnd_2, dX2_goToEnd_3, dX2_goToEnd_4, dX2_goToEnd_7, dX2_goToEnd_8, dX2_goToEnd_11, dX2_goToEnd_14, dX2_goToEnd_15, dX2_goToEnd_16, dX2_goToEnd_17, dX2_goToEnd_20, dX2_goToEnd_21, dX2_goToEnd_24, dX2_goToEnd_27, dX2_goToEnd_28, dX2_goToEnd_31, dX2_goToEnd_34, dX2_goToEnd_35, dX2_goToEnd_38, dX2_goToEnd_40, ca_X2_goToEnd_111, ca_X2_goToEnd_83, e_aload_n0, e_callv, e_iload_n1, e_iload_n2, e_ireturn, e_istore_n2i, e_istore_n2n, e_istore_n2r, e_pop, j_bp_m9, j_goto_24_m22, j_goto_35_5, j_ic_0, j_icmp_ge_4_23, j_if_eq_11_5, j_if_eq_31_7, j_ii_2_1, q_X2_isThere, ab_rn, bi_0, bi_1, ite_not]
        exact key
    · exact h.elim

