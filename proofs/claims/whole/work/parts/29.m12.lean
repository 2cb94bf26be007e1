/-! METHODS: Outlook, who leads, cures, doings, losses -/
/-- in how many days a man leads -/
def dl_l (M : ab_M) (x : Int32) : Nat → Nat → mr_T → Int32
  | 0, _, _ => -9
  | n + 1, k, s => if ld_X M s.2.2.1 s.2.2.2 = x then nI k else dl_l M x n (k + 1) (dy_X M s)
theorem dl_m5 {M : ab_M} {x : Int32} : ∀ (n k : Nat) {s t : mr_T}, m5 s t → dl_l M x n k s = dl_l M x n k t
  | 0, _, _, _, _ => rfl
  | n + 1, k, s, t, h => by
    simp only [dl_l, h.2.2.1, ld_e5 h.2.2.2, dl_m5 n (k + 1) (dy_m5 h)]
theorem lq_w18 {M : ab_M} {m d p : Int32} {f : Nat → Int32} {Po : ab_P} : s_X2_leader [.ref 18] (mw M 18 m d p f) Po = Po (some (.int (ld_X M p f))) (mw M 18 m d p f) := by
  rw [q_X2_leader]
  simp only [mw_r5, Nat.reduceAdd, w_rt18, w_ld18]
  simp
theorem lq_w23 {M : ab_M} {m d p : Int32} {f : Nat → Int32} {Po : ab_P} : s_X2_leader [.ref 23] (mw M 23 m d p f) Po = Po (some (.int (ld_X M p f))) (mw M 23 m d p f) := by
  rw [q_X2_leader]
  simp only [mw_r5, Nat.reduceAdd, w_rt23, w_ld23]
  simp
def s_X3_daysToLead : ab_Sem := fun as M Po => match as with
  | [.ref 16, .int x] => ∀ s : mr_T, Po (some (.int (dl_l M x 41 0 (nw_X M)))) (mws M 18 s)
  | _ => False
theorem q_X3_daysToLead {x : Int32} {M : ab_M} {Po : ab_P} : s_X3_daysToLead [.ref 16, .int x] M Po = (∀ s : mr_T, Po (some (.int (dl_l M x 41 0 (nw_X M)))) (mws M 18 s)) := rfl
abbrev x_X3_daysToLead : ab_X := (some .int, fl_X3, [(44, 2, s_X2_follow), (72, 1, s_X2_leader), (86, 1, s_X2_goDay)], kl_X3, gs_X3, ab_ros)
theorem ca_X3_daysToLead_22 {v0 v1 : Value} {st : List Value} {M : ab_M} {k : List Value → ab_M → Prop} : ab_ca x_X3_daysToLead (2 * 22) (v1 :: v0 :: st) M k = (st.length ≤ 4 ∧ s_X2_follow [v0, v1] M (fun r M' => k (r.toList ++ st) M')) := rfl
theorem ca_X3_daysToLead_36 {v0 : Value} {st : List Value} {M : ab_M} {k : List Value → ab_M → Prop} : ab_ca x_X3_daysToLead (2 * 36) (v0 :: st) M k = (st.length ≤ 4 ∧ s_X2_leader [v0] M (fun r M' => k (r.toList ++ st) M')) := rfl
theorem ca_X3_daysToLead_43 {v0 : Value} {st : List Value} {M : ab_M} {k : List Value → ab_M → Prop} : ab_ca x_X3_daysToLead (2 * 43) (v0 :: st) M k = (st.length ≤ 4 ∧ s_X2_goDay [v0] M (fun r M' => k (r.toList ++ st) M')) := rfl
theorem r_X3_daysToLead : ∀ (as : List Value) (M : ab_M) (Po : ab_P), s_X3_daysToLead as M Po → ∃ (q : Nat) (as' : List Value) (ci : Nat) (T : u_T) (N : Nat) (fs : List ab_F), as = .ref q :: as' ∧ ab_sh[q]? = some (.inl (ci, fs)) ∧ vwCl[ci]? = some (yX3_daysToLead.cls, T, N) := by
  intro as M Po h
  unfold s_X3_daysToLead at h
  split at h
  · first | exact ⟨_, _, 3, _, _, _, rfl, rfl, rfl⟩ | (rcases h.1 with rfl | rfl | rfl <;> exact ⟨_, _, 3, _, _, _, rfl, rfl, rfl⟩)
  · exact h.elim
set_option maxRecDepth 20000 in
set_option maxHeartbeats 4000000 in
theorem lq_X3_daysToLead {G : ab_K} {Po : ab_P} (hG : ab_Clo cX3_daysToLead x_X3_daysToLead Po G) {M : ab_M} {x : Int32} : ∀ (j i : Nat) (m d p : Int32) (f : Nat → Int32), i + j = 41 → (∀ s : mr_T, Po (some (.int (dl_l M x j i (m, d, p, f)))) (mws M 18 s)) → G 13 [some (.ref 16), some (.int x), some (.int (nI i))] [] (mw M 18 m d p f) := by
  intro j
  induction j with
  | zero =>
    intro i m d p f hi h
    have e : i = 41 := by omega
    subst e
    unfold dl_l at h
    refine ab_go1 hG [13] 80 _ _ _ _ ?_
    simp (decide := true) only [ew_s, ew_0, Option.toList_some, Option.toList_none, List.cons_append, List.nil_append, true_and, and_true, List.length_cons, List.length_nil, Nat.reduceAdd, Nat.reduceLeDiff, Int32.reduceAdd, Int32.reduceSub, Int32.reduceMul, Int32.reduceLT, Int32.reduceLE, ↓reduceIte, and_self, si_1, si_2, sl_1, sl_2, false_and, and_false, dX3_daysToLead_0, dX3_daysToLead_1, dX3_daysToLead_4, dX3_daysToLead_5, dX3_daysToLead_8, dX3_daysToLead_11, dX3_daysToLead_12, dX3_daysToLead_13, dX3_daysToLead_14, dX3_daysToLead_16, dX3_daysToLead_19, dX3_daysToLead_20, dX3_daysToLead_23, dX3_daysToLead_26, dX3_daysToLead_27, dX3_daysToLead_30, dX3_daysToLead_31, dX3_daysToLead_32, dX3_daysToLead_33, dX3_daysToLead_36, dX3_daysToLead_39, dX3_daysToLead_40, dX3_daysToLead_43, dX3_daysToLead_46, dX3_daysToLead_48, ca_X3_daysToLead_22, ca_X3_daysToLead_36, ca_X3_daysToLead_43, e_aload_n0, e_callv, e_getfield, e_iload_n1, e_iload_n2, e_ireturn, e_istore_n2i, e_istore_n2n, e_istore_n2r, e_pop, gf_X3_15_16, gf_X3_19_16, j_bp_40, j_bp_m9, j_goto_43_m30, j_ic_0, j_icmp_gt_16_30, j_icmp_ne_27_5, j_ii_2_1, lq_w18, gq_w18, ab_rn, bi_0, bi_1, ite_not]
    exact h (m, d, p, f)
  | succ j ih =>
    intro i m d p f hi h
    unfold dl_l at h
    refine ab_go1 hG [13] 80 _ _ _ _ ?_
    simp (decide := true) only [ew_s, ew_0, Option.toList_some, Option.toList_none, List.cons_append, List.nil_append, true_and, and_true, List.length_cons, List.length_nil, Nat.reduceAdd, Nat.reduceLeDiff, Int32.reduceAdd, Int32.reduceSub, Int32.reduceMul, Int32.reduceLT, Int32.reduceLE, ↓reduceIte, and_self, si_1, si_2, sl_1, sl_2, false_and, and_false, dX3_daysToLead_0, dX3_daysToLead_1, dX3_daysToLead_4, dX3_daysToLead_5, dX3_daysToLead_8, dX3_daysToLead_11, dX3_daysToLead_12, dX3_daysToLead_13, dX3_daysToLead_14, dX3_daysToLead_16, dX3_daysToLead_19, dX3_daysToLead_20, dX3_daysToLead_23, dX3_daysToLead_26, dX3_daysToLead_27, dX3_daysToLead_30, dX3_daysToLead_31, dX3_daysToLead_32, dX3_daysToLead_33, dX3_daysToLead_36, dX3_daysToLead_39, dX3_daysToLead_40, dX3_daysToLead_43, dX3_daysToLead_46, dX3_daysToLead_48, ca_X3_daysToLead_22, ca_X3_daysToLead_36, ca_X3_daysToLead_43, e_aload_n0, e_callv, e_getfield, e_iload_n1, e_iload_n2, e_ireturn, e_istore_n2i, e_istore_n2n, e_istore_n2r, e_pop, gf_X3_15_16, gf_X3_19_16, j_bp_40, j_bp_m9, j_goto_43_m30, j_ic_0, j_icmp_gt_16_30, j_icmp_ne_27_5, j_ii_2_1, lq_w18, gq_w18, ab_rn, bi_0, bi_1, ite_not]
    rw [if_neg (show ¬ (40 : Int32) < nI i from nI_nlt (a := 40) (by omega) (by omega)), nI_1]
    split
    · rename_i h2
      rw [if_pos h2] at h
      exact h (m, d, p, f)
    · rename_i h2
      rw [if_neg h2] at h
      exact ih (i + 1) _ _ _ _ (by omega) h
theorem ln_X3_daysToLead {M : ab_M} {x : Int32} {f : Nat → Int32} {Po : ab_P} (n : Nat) (h : ∀ s : mr_T, Po (some (.int (dl_l M x n 0 (nw_X M)))) (mws M 18 s)) : ∀ s : mr_T, Po (some (.int (dl_l M x n 0 (M.1 12 3, M.1 12 4, -1, fi_5 (M.1 13) f)))) (mws M 18 s) := by
  rw [dl_m5 n 0 (nw_m5 M f)]
  exact h
set_option maxRecDepth 20000 in
set_option maxHeartbeats 4000000 in
theorem lp_X3_daysToLead {G : ab_K} {Po : ab_P} (hG : ab_Clo cX3_daysToLead x_X3_daysToLead Po G) {M : ab_M} {m d p x : Int32} {f : Nat → Int32} (h : ∀ s : mr_T, Po (some (.int (dl_l M x 41 0 (nw_X M)))) (mws M 18 s)) : G 0 [some (.ref 16), some (.int x), none] [] (mw M 18 m d p f) := by
  refine ab_go hG [13] 80 _ _ _ _ ?_
  simp (decide := true) only [ew_s, ew_0, Option.toList_some, Option.toList_none, List.cons_append, List.nil_append, true_and, and_true, List.length_cons, List.length_nil, Nat.reduceAdd, Nat.reduceLeDiff, Int32.reduceAdd, Int32.reduceSub, Int32.reduceMul, Int32.reduceLT, Int32.reduceLE, ↓reduceIte, and_self, si_1, si_2, sl_1, sl_2, false_and, and_false, dX3_daysToLead_0, dX3_daysToLead_1, dX3_daysToLead_4, dX3_daysToLead_5, dX3_daysToLead_8, dX3_daysToLead_11, dX3_daysToLead_12, dX3_daysToLead_13, dX3_daysToLead_14, dX3_daysToLead_16, dX3_daysToLead_19, dX3_daysToLead_20, dX3_daysToLead_23, dX3_daysToLead_26, dX3_daysToLead_27, dX3_daysToLead_30, dX3_daysToLead_31, dX3_daysToLead_32, dX3_daysToLead_33, dX3_daysToLead_36, dX3_daysToLead_39, dX3_daysToLead_40, dX3_daysToLead_43, dX3_daysToLead_46, dX3_daysToLead_48, ca_X3_daysToLead_22, ca_X3_daysToLead_36, ca_X3_daysToLead_43, e_aload_n0, e_callv, e_getfield, e_iload_n1, e_iload_n2, e_ireturn, e_istore_n2i, e_istore_n2n, e_istore_n2r, e_pop, gf_X3_15_16, gf_X3_19_16, j_bp_40, j_bp_m9, j_goto_43_m30, j_ic_0, j_icmp_gt_16_30, j_icmp_ne_27_5, j_ii_2_1, q_X2_leader, fq_w18, ab_rn, bi_0, bi_1, ite_not]
  exact lq_X3_daysToLead hG 41 0 _ _ _ _ (by omega) (ln_X3_daysToLead _ h)
set_option maxRecDepth 20000 in
set_option maxHeartbeats 4000000 in
theorem c_X3_daysToLead {l : Launch} : ab_ctr l yX3_daysToLead cX3_daysToLead 3 (some .int) 3 72 s_X3_daysToLead := by
  refine ab_met x_X3_daysToLead (by decide) rfl fo_X3 ko_X3 so_X3 rfl (ab_cs_cons (ab_kV c_X2_follow ml_X3_22 v_X2_follow ⟨rfl, rfl⟩ r_X2_follow) (ab_cs_cons (ab_kV c_X2_leader ml_X3_36 v_X2_leader ⟨rfl, rfl⟩ r_X2_leader) (ab_cs_cons (ab_kV c_X2_goDay ml_X3_43 v_X2_goDay ⟨rfl, rfl⟩ r_X2_goDay) ab_cs_nil))) ?_ ?_
  · intro as M Po h
    unfold s_X3_daysToLead at h
    split at h
    · simp [ab_e0]
    · exact h.elim
  · intro as M Po h G hG
    unfold s_X3_daysToLead at h
    split at h
    · simp only [ab_en, ab_e0, List.length_cons, List.length_nil, Nat.reduceAdd, Nat.reduceSub, List.replicate, List.cons_append, List.nil_append]
      have key := lp_X3_daysToLead hG (m := M.1 18 3) (d := M.1 18 4) (p := M.1 18 5) (f := M.1 19) h
      rw [show mw M 18 (M.1 18 3) (M.1 18 4) (M.1 18 5) (M.1 19) = M from mw_id] at key
      exact key
    · exact h.elim

def de_n (M : ab_M) (n : Nat) (x : Int32) : Int32 := if (¬ x < 0 ∧ x < M.1 8 3 ∧ x < 5) ∧ 0 < th_X M 12 x then (ge_X M n 0 (M.1 12 3, M.1 12 4, -1, ea_X M (M.1 13) x)).1 else -9
def cu_l (M : ab_M) (d : Nat) : Nat → Nat → Int32 → Int32 → Int32 × Int32
  | 0, _, b, f => (b, f)
  | n + 1, i, b, f => if ¬ de_n M d (nI i) = -9 ∧ (b = -9 ∨ de_n M d (nI i) < f) then cu_l M d n (i + 1) (nI i) (de_n M d (nI i)) else cu_l M d n (i + 1) b f
theorem de_w18 {M : ab_M} {m d p x : Int32} {f : Nat → Int32} {n : Nat} : de_n (mw M 18 m d p f) n x = de_n M n x := by
  simp only [de_n, ge_w18, w_ea18, w_o83_18, n18_3, n18_4, n18_t, n18_h]
theorem qd_w18 {M : ab_M} {m d p x : Int32} {f : Nat → Int32} {Po : ab_P} : s_X3_daysIfEased [.ref 16, .int x] (mw M 18 m d p f) Po = (∀ s : mr_T, Po (some (.int (ge_X M 60 0 (M.1 12 3, M.1 12 4, -1, ea_X M (M.1 13) x)).1)) (mws M 18 s)) := by
  rw [q_X3_daysIfEased]
  simp only [ge_w18, w_ea18, n18_3, n18_4, n18_t, mws_w18]
def s_X3_bestCure : ab_Sem := fun as M Po => match as with
  | [.ref 16, .int x] => ∀ s : mr_T, Po (some (.int (if x = 0 then (cu_l M 60 (nc_X M) 0 (-9) (-9)).2 else (cu_l M 60 (nc_X M) 0 (-9) (-9)).1))) (mws M 18 s)
  | _ => False
theorem q_X3_bestCure {x : Int32} {M : ab_M} {Po : ab_P} : s_X3_bestCure [.ref 16, .int x] M Po = (∀ s : mr_T, Po (some (.int (if x = 0 then (cu_l M 60 (nc_X M) 0 (-9) (-9)).2 else (cu_l M 60 (nc_X M) 0 (-9) (-9)).1))) (mws M 18 s)) := rfl
abbrev x_X3_bestCure : ab_X := (some .int, fl_X3, [(92, 1, s_X2_menCount), (98, 2, s_X2_canEase), (106, 2, s_X3_daysIfEased)], kl_X3, gs_X3, ab_ros)
theorem ca_X3_bestCure_46 {v0 : Value} {st : List Value} {M : ab_M} {k : List Value → ab_M → Prop} : ab_ca x_X3_bestCure (2 * 46) (v0 :: st) M k = (st.length ≤ 4 ∧ s_X2_menCount [v0] M (fun r M' => k (r.toList ++ st) M')) := rfl
theorem ca_X3_bestCure_49 {v0 v1 : Value} {st : List Value} {M : ab_M} {k : List Value → ab_M → Prop} : ab_ca x_X3_bestCure (2 * 49) (v1 :: v0 :: st) M k = (st.length ≤ 4 ∧ s_X2_canEase [v0, v1] M (fun r M' => k (r.toList ++ st) M')) := rfl
theorem ca_X3_bestCure_53 {v0 v1 : Value} {st : List Value} {M : ab_M} {k : List Value → ab_M → Prop} : ab_ca x_X3_bestCure (2 * 53) (v1 :: v0 :: st) M k = (st.length ≤ 4 ∧ s_X3_daysIfEased [v0, v1] M (fun r M' => k (r.toList ++ st) M')) := rfl
theorem r_X3_bestCure : ∀ (as : List Value) (M : ab_M) (Po : ab_P), s_X3_bestCure as M Po → ∃ (q : Nat) (as' : List Value) (ci : Nat) (T : u_T) (N : Nat) (fs : List ab_F), as = .ref q :: as' ∧ ab_sh[q]? = some (.inl (ci, fs)) ∧ vwCl[ci]? = some (yX3_bestCure.cls, T, N) := by
  intro as M Po h
  unfold s_X3_bestCure at h
  split at h
  · first | exact ⟨_, _, 3, _, _, _, rfl, rfl, rfl⟩ | (rcases h.1 with rfl | rfl | rfl <;> exact ⟨_, _, 3, _, _, _, rfl, rfl, rfl⟩)
  · exact h.elim
theorem qe_w18 {M : ab_M} {m d p x : Int32} {f : Nat → Int32} {Po : ab_P} : s_X2_canEase [.ref 12, .int x] (mw M 18 m d p f) Po = Po (some (.int (if (¬ x < 0 ∧ x < M.1 8 3 ∧ x < 5) ∧ 0 < th_X M 12 x then 1 else 0))) (mw M 18 m d p f) := propext ⟨fun h => h.2, fun h => ⟨Or.inl rfl, h⟩⟩
theorem qm_w18 {M : ab_M} {m d p : Int32} {f : Nat → Int32} {Po : ab_P} : s_X2_menCount [.ref 12] (mw M 18 m d p f) Po = Po (some (.int (M.1 8 3))) (mw M 18 m d p f) := propext ⟨fun h => h.2, fun h => ⟨Or.inl rfl, h⟩⟩
set_option maxRecDepth 20000 in
set_option maxHeartbeats 4000000 in
theorem lt_X3_bestCure {G : ab_K} {Po : ab_P} (hG : ab_Clo cX3_bestCure x_X3_bestCure Po G) {M : ab_M} {x b f v m d p : Int32} {g : Nat → Int32} {i : Nat} (h1 : ¬ v = -9 ∧ (b = -9 ∨ v < f) → G 9 [some (.ref 16), some (.int x), some (.int (nI i)), some (.int v), some (.int (nI (i + 1))), some (.int v)] [] (mw M 18 m d p g)) (h2 : ¬ (¬ v = -9 ∧ (b = -9 ∨ v < f)) → G 9 [some (.ref 16), some (.int x), some (.int b), some (.int f), some (.int (nI (i + 1))), some (.int v)] [] (mw M 18 m d p g)) : G 46 [some (.ref 16), some (.int x), some (.int b), some (.int f), some (.int (nI i)), some (.int v)] [] (mw M 18 m d p g) := by
  refine ab_go1 hG [9] 80 _ _ _ _ ?_
  simp (decide := true) only [ew_s, ew_0, Option.toList_some, Option.toList_none, List.cons_append, List.nil_append, true_and, and_true, List.length_cons, List.length_nil, Nat.reduceAdd, Nat.reduceLeDiff, Int32.reduceAdd, Int32.reduceSub, Int32.reduceMul, Int32.reduceLT, Int32.reduceLE, ↓reduceIte, and_self, si_1, si_2, sl_1, sl_2, false_and, and_false, dX3_bestCure_0, dX3_bestCure_2, dX3_bestCure_3, dX3_bestCure_5, dX3_bestCure_6, dX3_bestCure_7, dX3_bestCure_9, dX3_bestCure_11, dX3_bestCure_12, dX3_bestCure_15, dX3_bestCure_18, dX3_bestCure_21, dX3_bestCure_22, dX3_bestCure_25, dX3_bestCure_27, dX3_bestCure_30, dX3_bestCure_33, dX3_bestCure_34, dX3_bestCure_36, dX3_bestCure_39, dX3_bestCure_42, dX3_bestCure_44, dX3_bestCure_46, dX3_bestCure_48, dX3_bestCure_50, dX3_bestCure_53, dX3_bestCure_54, dX3_bestCure_56, dX3_bestCure_59, dX3_bestCure_61, dX3_bestCure_62, dX3_bestCure_65, dX3_bestCure_67, dX3_bestCure_68, dX3_bestCure_70, dX3_bestCure_71, dX3_bestCure_74, dX3_bestCure_77, dX3_bestCure_78, dX3_bestCure_81, dX3_bestCure_82, dX3_bestCure_85, dX3_bestCure_86, ca_X3_bestCure_46, ca_X3_bestCure_49, ca_X3_bestCure_53, e_aload_n0, e_callv, e_getfield, e_iload4, e_iload5, e_iload_n1, e_iload_n2, e_iload_n3, e_ireturn, e_istore4i, e_istore4n, e_istore4r, e_istore5i, e_istore5n, e_istore5r, e_istore_n2i, e_istore_n2n, e_istore_n2r, e_istore_n3i, e_istore_n3n, e_istore_n3r, gf_X3_15_16, j_bp_m9, j_goto_39_5, j_goto_74_m65, j_goto_82_4, j_ic_0, j_icmp_eq_50_21, j_icmp_eq_56_9, j_icmp_ge_18_59, j_icmp_ge_62_9, j_if_eq_30_12, j_if_eq_78_7, j_ii_4_1, q_X2_canEase, q_X2_menCount, ab_rn, bi_0, bi_1, ite_not]
  simp only [nI_1]
  by_cases hv : v = -9
  · rw [if_pos hv]
    exact h2 (fun hh => hh.1 hv)
  · rw [if_neg hv]
    by_cases hb : b = -9
    · rw [if_pos hb]
      exact h1 ⟨hv, Or.inl hb⟩
    · rw [if_neg hb]
      by_cases hf : v < f
      · rw [if_pos hf]
        exact h1 ⟨hv, Or.inr hf⟩
      · rw [if_neg hf]
        exact h2 (fun hh => hh.2.elim hb hf)
set_option maxRecDepth 20000 in
set_option maxHeartbeats 4000000 in
theorem ls_X3_bestCure {G : ab_K} {Po : ab_P} (hG : ab_Clo cX3_bestCure x_X3_bestCure Po G) {M : ab_M} {x b f m d p : Int32} {g : Nat → Int32} {i : Nat} {c : Option Value} (hi : i < nc_X M) (h : ∀ s : mr_T, G 46 [some (.ref 16), some (.int x), some (.int b), some (.int f), some (.int (nI i)), some (.int (if (¬ nI i < 0 ∧ nI i < M.1 8 3 ∧ nI i < 5) ∧ 0 < th_X M 12 (nI i) then (ge_X M 60 0 (M.1 12 3, M.1 12 4, -1, ea_X M (M.1 13) (nI i))).1 else -9))] [] (mws M 18 s)) : G 9 [some (.ref 16), some (.int x), some (.int b), some (.int f), some (.int (nI i)), c] [] (mw M 18 m d p g) := by
  refine ab_go1 hG [46] 80 _ _ _ _ ?_
  simp (decide := true) only [ew_s, ew_0, Option.toList_some, Option.toList_none, List.cons_append, List.nil_append, true_and, and_true, List.length_cons, List.length_nil, Nat.reduceAdd, Nat.reduceLeDiff, Int32.reduceAdd, Int32.reduceSub, Int32.reduceMul, Int32.reduceLT, Int32.reduceLE, ↓reduceIte, and_self, si_1, si_2, sl_1, sl_2, false_and, and_false, dX3_bestCure_0, dX3_bestCure_2, dX3_bestCure_3, dX3_bestCure_5, dX3_bestCure_6, dX3_bestCure_7, dX3_bestCure_9, dX3_bestCure_11, dX3_bestCure_12, dX3_bestCure_15, dX3_bestCure_18, dX3_bestCure_21, dX3_bestCure_22, dX3_bestCure_25, dX3_bestCure_27, dX3_bestCure_30, dX3_bestCure_33, dX3_bestCure_34, dX3_bestCure_36, dX3_bestCure_39, dX3_bestCure_42, dX3_bestCure_44, dX3_bestCure_46, dX3_bestCure_48, dX3_bestCure_50, dX3_bestCure_53, dX3_bestCure_54, dX3_bestCure_56, dX3_bestCure_59, dX3_bestCure_61, dX3_bestCure_62, dX3_bestCure_65, dX3_bestCure_67, dX3_bestCure_68, dX3_bestCure_70, dX3_bestCure_71, dX3_bestCure_74, dX3_bestCure_77, dX3_bestCure_78, dX3_bestCure_81, dX3_bestCure_82, dX3_bestCure_85, dX3_bestCure_86, ca_X3_bestCure_46, ca_X3_bestCure_49, ca_X3_bestCure_53, e_aload_n0, e_callv, e_getfield, e_iload4, e_iload5, e_iload_n1, e_iload_n2, e_iload_n3, e_ireturn, e_istore4i, e_istore4n, e_istore4r, e_istore5i, e_istore5n, e_istore5r, e_istore_n2i, e_istore_n2n, e_istore_n2r, e_istore_n3i, e_istore_n3n, e_istore_n3r, gf_X3_15_16, j_bp_m9, j_goto_39_5, j_goto_74_m65, j_goto_82_4, j_ic_0, j_icmp_eq_50_21, j_icmp_eq_56_9, j_icmp_ge_18_59, j_icmp_ge_62_9, j_if_eq_30_12, j_if_eq_78_7, j_ii_4_1, qd_w18, qe_w18, qm_w18, ab_rn, bi_0, bi_1, ite_not]
  rw [if_pos (nc_lt hi)]
  by_cases h2 : (¬ nI i < 0 ∧ nI i < M.1 8 3 ∧ nI i < 5) ∧ 0 < th_X M 12 (nI i)
  · rw [if_pos h2]
    rw [if_pos h2] at h
    exact fun s => h s
  · rw [if_neg h2]
    rw [if_neg h2] at h
    exact h (m, d, p, g)
set_option maxRecDepth 20000 in
set_option maxHeartbeats 4000000 in
theorem lu_X3_bestCure {G : ab_K} {Po : ab_P} (hG : ab_Clo cX3_bestCure x_X3_bestCure Po G) {M : ab_M} {x b f m d p : Int32} {g : Nat → Int32} {i : Nat} {c : Option Value} (hi : nc_X M ≤ i) (hi2 : i < 2 ^ 31) (h : Po (some (.int (if x = 0 then f else b))) (mw M 18 m d p g)) : G 9 [some (.ref 16), some (.int x), some (.int b), some (.int f), some (.int (nI i)), c] [] (mw M 18 m d p g) := by
  refine ab_go1 hG [46] 80 _ _ _ _ ?_
  simp (decide := true) only [ew_s, ew_0, Option.toList_some, Option.toList_none, List.cons_append, List.nil_append, true_and, and_true, List.length_cons, List.length_nil, Nat.reduceAdd, Nat.reduceLeDiff, Int32.reduceAdd, Int32.reduceSub, Int32.reduceMul, Int32.reduceLT, Int32.reduceLE, ↓reduceIte, and_self, si_1, si_2, sl_1, sl_2, false_and, and_false, dX3_bestCure_0, dX3_bestCure_2, dX3_bestCure_3, dX3_bestCure_5, dX3_bestCure_6, dX3_bestCure_7, dX3_bestCure_9, dX3_bestCure_11, dX3_bestCure_12, dX3_bestCure_15, dX3_bestCure_18, dX3_bestCure_21, dX3_bestCure_22, dX3_bestCure_25, dX3_bestCure_27, dX3_bestCure_30, dX3_bestCure_33, dX3_bestCure_34, dX3_bestCure_36, dX3_bestCure_39, dX3_bestCure_42, dX3_bestCure_44, dX3_bestCure_46, dX3_bestCure_48, dX3_bestCure_50, dX3_bestCure_53, dX3_bestCure_54, dX3_bestCure_56, dX3_bestCure_59, dX3_bestCure_61, dX3_bestCure_62, dX3_bestCure_65, dX3_bestCure_67, dX3_bestCure_68, dX3_bestCure_70, dX3_bestCure_71, dX3_bestCure_74, dX3_bestCure_77, dX3_bestCure_78, dX3_bestCure_81, dX3_bestCure_82, dX3_bestCure_85, dX3_bestCure_86, ca_X3_bestCure_46, ca_X3_bestCure_49, ca_X3_bestCure_53, e_aload_n0, e_callv, e_getfield, e_iload4, e_iload5, e_iload_n1, e_iload_n2, e_iload_n3, e_ireturn, e_istore4i, e_istore4n, e_istore4r, e_istore5i, e_istore5n, e_istore5r, e_istore_n2i, e_istore_n2n, e_istore_n2r, e_istore_n3i, e_istore_n3n, e_istore_n3r, gf_X3_15_16, j_bp_m9, j_goto_39_5, j_goto_74_m65, j_goto_82_4, j_ic_0, j_icmp_eq_50_21, j_icmp_eq_56_9, j_icmp_ge_18_59, j_icmp_ge_62_9, j_if_eq_30_12, j_if_eq_78_7, j_ii_4_1, qd_w18, qe_w18, qm_w18, ab_rn, bi_0, bi_1, ite_not]
  rw [if_neg (nc_ge hi hi2)]
  split
  · rename_i h2
    rw [if_pos h2] at h
    exact h
  · rename_i h2
    rw [if_neg h2] at h
    exact h
theorem lq_X3_bestCure {G : ab_K} {Po : ab_P} (hG : ab_Clo cX3_bestCure x_X3_bestCure Po G) {M : ab_M} {x : Int32} : ∀ (j i : Nat) (b f m d p : Int32) (g : Nat → Int32) (c : Option Value), i + j = nc_X M → (∀ s : mr_T, Po (some (.int (if x = 0 then (cu_l M 60 j i b f).2 else (cu_l M 60 j i b f).1))) (mws M 18 s)) → G 9 [some (.ref 16), some (.int x), some (.int b), some (.int f), some (.int (nI i)), c] [] (mw M 18 m d p g) := by
  intro j
  have h31 := nc_31 M
  induction j with
  | zero =>
    intro i b f m d p g c hi h
    exact lu_X3_bestCure hG (by omega) (by omega) (h (m, d, p, g))
  | succ j ih =>
    intro i b f m d p g c hi h
    unfold cu_l at h
    refine ls_X3_bestCure hG (by omega) (fun s => ?_)
    refine lt_X3_bestCure hG (fun hh => ?_) (fun hh => ?_)
    · rw [if_pos (show ¬ de_n M 60 (nI i) = -9 ∧ (b = -9 ∨ de_n M 60 (nI i) < f) from hh)] at h
      exact ih (i + 1) _ _ _ _ _ _ _ (by omega) h
    · rw [if_neg (show ¬ (¬ de_n M 60 (nI i) = -9 ∧ (b = -9 ∨ de_n M 60 (nI i) < f)) from hh)] at h
      exact ih (i + 1) _ _ _ _ _ _ _ (by omega) h
set_option maxRecDepth 20000 in
set_option maxHeartbeats 4000000 in
theorem lp_X3_bestCure {G : ab_K} {Po : ab_P} (hG : ab_Clo cX3_bestCure x_X3_bestCure Po G) {M : ab_M} {m d p x : Int32} {f : Nat → Int32} (h : ∀ s : mr_T, Po (some (.int (if x = 0 then (cu_l M 60 (nc_X M) 0 (-9) (-9)).2 else (cu_l M 60 (nc_X M) 0 (-9) (-9)).1))) (mws M 18 s)) : G 0 [some (.ref 16), some (.int x), none, none, none, none] [] (mw M 18 m d p f) := by
  refine ab_go hG [9] 80 _ _ _ _ ?_
  simp (decide := true) only [ew_s, ew_0, Option.toList_some, Option.toList_none, List.cons_append, List.nil_append, true_and, and_true, List.length_cons, List.length_nil, Nat.reduceAdd, Nat.reduceLeDiff, Int32.reduceAdd, Int32.reduceSub, Int32.reduceMul, Int32.reduceLT, Int32.reduceLE, ↓reduceIte, and_self, si_1, si_2, sl_1, sl_2, false_and, and_false, dX3_bestCure_0, dX3_bestCure_2, dX3_bestCure_3, dX3_bestCure_5, dX3_bestCure_6, dX3_bestCure_7, dX3_bestCure_9, dX3_bestCure_11, dX3_bestCure_12, dX3_bestCure_15, dX3_bestCure_18, dX3_bestCure_21, dX3_bestCure_22, dX3_bestCure_25, dX3_bestCure_27, dX3_bestCure_30, dX3_bestCure_33, dX3_bestCure_34, dX3_bestCure_36, dX3_bestCure_39, dX3_bestCure_42, dX3_bestCure_44, dX3_bestCure_46, dX3_bestCure_48, dX3_bestCure_50, dX3_bestCure_53, dX3_bestCure_54, dX3_bestCure_56, dX3_bestCure_59, dX3_bestCure_61, dX3_bestCure_62, dX3_bestCure_65, dX3_bestCure_67, dX3_bestCure_68, dX3_bestCure_70, dX3_bestCure_71, dX3_bestCure_74, dX3_bestCure_77, dX3_bestCure_78, dX3_bestCure_81, dX3_bestCure_82, dX3_bestCure_85, dX3_bestCure_86, ca_X3_bestCure_46, ca_X3_bestCure_49, ca_X3_bestCure_53, e_aload_n0, e_callv, e_getfield, e_iload4, e_iload5, e_iload_n1, e_iload_n2, e_iload_n3, e_ireturn, e_istore4i, e_istore4n, e_istore4r, e_istore5i, e_istore5n, e_istore5r, e_istore_n2i, e_istore_n2n, e_istore_n2r, e_istore_n3i, e_istore_n3n, e_istore_n3r, gf_X3_15_16, j_bp_m9, j_goto_39_5, j_goto_74_m65, j_goto_82_4, j_ic_0, j_icmp_eq_50_21, j_icmp_eq_56_9, j_icmp_ge_18_59, j_icmp_ge_62_9, j_if_eq_30_12, j_if_eq_78_7, j_ii_4_1, q_X2_canEase, q_X2_menCount, q_X3_daysIfEased, ab_rn, bi_0, bi_1, ite_not]
  exact lq_X3_bestCure hG _ 0 _ _ _ _ _ _ _ (by omega) h
set_option maxRecDepth 20000 in
set_option maxHeartbeats 4000000 in
theorem c_X3_bestCure {l : Launch} : ab_ctr l yX3_bestCure cX3_bestCure 6 (some .int) 5 115 s_X3_bestCure := by
  refine ab_met x_X3_bestCure (by decide) rfl fo_X3 ko_X3 so_X3 rfl (ab_cs_cons (ab_kV c_X2_menCount ml_X3_46 v_X2_menCount ⟨rfl, rfl⟩ r_X2_menCount) (ab_cs_cons (ab_kV c_X2_canEase ml_X3_49 v_X2_canEase ⟨rfl, rfl⟩ r_X2_canEase) (ab_cs_cons (ab_kV c_X3_daysIfEased ml_X3_53 v_X3_daysIfEased ⟨rfl, rfl⟩ r_X3_daysIfEased) ab_cs_nil))) ?_ ?_
  · intro as M Po h
    unfold s_X3_bestCure at h
    split at h
    · simp [ab_e0]
    · exact h.elim
  · intro as M Po h G hG
    unfold s_X3_bestCure at h
    split at h
    · simp only [ab_en, ab_e0, List.length_cons, List.length_nil, Nat.reduceAdd, Nat.reduceSub, List.replicate, List.cons_append, List.nil_append]
      have key := lp_X3_bestCure hG (m := M.1 18 3) (d := M.1 18 4) (p := M.1 18 5) (f := M.1 19) h
      rw [show mw M 18 (M.1 18 3) (M.1 18 4) (M.1 18 5) (M.1 19) = M from mw_id] at key
      exact key
    · exact h.elim

